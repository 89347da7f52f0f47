theorem oD_12_Sc_clear : OI YD 12 y_Sc_clear := ⟨by decide, _, _, _, cD_12, rfl⟩
theorem pD_Sc_41_12 : PI YD "DoorsOnCogs$Scene" 41 12 3 none .int := ⟨by decide, _, _, _, fl_Sc_41, fp_6_3, cD_12, by decide, rfl⟩
theorem pD_Sc_56_12 : PI YD "DoorsOnCogs$Scene" 56 12 10 none .int := ⟨by decide, _, _, _, fl_Sc_56, fp_6_10, cD_12, by decide, rfl⟩
theorem pD_Sc_59_12 : PI YD "DoorsOnCogs$Scene" 59 12 11 none .int := ⟨by decide, _, _, _, fl_Sc_59, fp_6_11, cD_12, by decide, rfl⟩
theorem pD_Sc_62_12 : PI YD "DoorsOnCogs$Scene" 62 12 12 none .int := ⟨by decide, _, _, _, fl_Sc_62, fp_6_12, cD_12, by decide, rfl⟩
theorem pD_Sc_65_12 : PI YD "DoorsOnCogs$Scene" 65 12 14 none .int := ⟨by decide, _, _, _, fl_Sc_65, fp_6_14, cD_12, by decide, rfl⟩
theorem pD_Sc_68_12 : PI YD "DoorsOnCogs$Scene" 68 12 16 none .int := ⟨by decide, _, _, _, fl_Sc_68, fp_6_16, cD_12, by decide, rfl⟩
theorem gD_D_18_0 : GI YD "DoorsOnCogs" 18 0 2 (some (some 2)) := ⟨by decide, _, _, _, fl_D_18, cD_0, by decide, rfl⟩
theorem oD_2_Sp_open : OI YD 2 y_Sp_open := ⟨by decide, _, _, _, cD_2, rfl⟩
theorem pD_Sp_21_2 : PI YD "DoorsOnCogs$Script" 21 2 1 none .int := ⟨by decide, _, _, _, fl_Sp_21, fp_7_1, cD_2, by decide, rfl⟩
theorem gD_D_79_0 : GI YD "DoorsOnCogs" 79 0 11 (some (some 83)) := ⟨by decide, _, _, _, fl_D_79, cD_0, by decide, rfl⟩
theorem oD_83_Sr_read : OI YD 83 y_Sr_read := ⟨by decide, _, _, _, cD_83, rfl⟩
theorem gD_D_118_2 : GI YD "DoorsOnCogs" 118 2 3 none := ⟨by decide, _, _, _, fl_D_118, cD_2, by decide, rfl⟩
theorem gD_D_29_0 : GI YD "DoorsOnCogs" 29 0 4 (some (some 12)) := ⟨by decide, _, _, _, fl_D_29, cD_0, by decide, rfl⟩
theorem pD_D_121_12 : PI YD "DoorsOnCogs" 121 12 16 none .int := ⟨by decide, _, _, _, fl_D_121, fp_6_16, cD_12, by decide, rfl⟩
/-! street: the class, and the pair -/
abbrev Wrs (c : Nat) (i : Int) : Prop := Wrd c i ∨ (c = 12 ∧ (i = 10 ∨ i = 11 ∨ i = 12 ∨ i = 14 ∨ i = 16)) ∨ c = 18
theorem rdR_all {A : Int → Int} {n : Int} {dr jr : Int → Int} : rdR A n 401 (0, 0, 0, 0, 0, 0, dr, jr) = stAll A n dr jr := by
  cases hc : stClause A n (0, 0, 0, 0, 0, 0, dr, jr) with
  | error w => rw [rdR_er hc]; unfold stAll; rw [hc]
  | ok τ => rw [rdR_ok hc]; unfold stAll; rw [hc]
/-- the draft is as a street that was read: nothing wanted, seen, no comings, all places 0 -/
def CLR (μ : Mem) : Prop := μ 12 10 = 0 ∧ μ 12 11 = 0 ∧ μ 12 12 = 0 ∧ μ 12 14 = 0 ∧ ∀ d, 0 ≤ d → d < 12 → μ 18 d = 0
set_option maxHeartbeats 4000000 in
theorem s_readSt {μ : Mem} {Q : PV → Mem → Prop} {A : Int → Int} {n : Int} (hT : TD μ A n) (hk : μ 2 2 = 0) (hf0 : μ 2 3 = 0) {dr jr : Int → Int} (h1 : ∀ σ μ', stAll A n dr jr = .ok σ → Fr Wrs μ μ' → DRF μ' σ → μ' 2 3 = 0 → CLR μ' → Q vU μ') (h2 : ∀ wr μ', stAll A n dr jr = .error wr → Fr Wrs μ μ' → μ' 2 3 = wr → Q vU μ') : Rj YD y_Sr_read 0 [vA 83] [] μ Q := by
  have hX := hT.1.1
  refine Rj_aload_n (q := 1) d_Sr_read_0 rfl rfl rfl ?_
  refine Rj_gr (q := 4) (zd := 12) gD_Sr_15_83 rfl rfl d_Sr_read_1 rfl ?_
  refine Rj_vov (q := 7) (z := y_Sc_clear) (as := []) (rest := []) (la := [vA 12]) oD_12_Sc_clear ml_Sr_19 mw_Sc_clear mv_Sc_clear rfl d_Sr_read_4 rfl rfl rfl rfl rfl ?_
  refine Rj_aload_n (q := 1) d_Sc_clear_0 rfl rfl rfl ?_
  refine Rj_iconst (q := 2) d_Sc_clear_1 rfl ?_
  refine Rj_pi (q := 5) (ki := 0) pD_Sc_37_12 rfl rfl d_Sc_clear_2 rfl ?_
  refine Rj_aload_n (q := 6) d_Sc_clear_5 rfl rfl rfl ?_
  refine Rj_iconst (q := 7) d_Sc_clear_6 rfl ?_
  refine Rj_pi (q := 10) (ki := 3) pD_Sc_41_12 rfl rfl d_Sc_clear_7 rfl ?_
  refine Rj_aload_n (q := 11) d_Sc_clear_10 rfl rfl rfl ?_
  refine Rj_iconst (q := 12) d_Sc_clear_11 rfl ?_
  refine Rj_pi (q := 15) (ki := 4) pD_Sc_44_12 rfl rfl d_Sc_clear_12 rfl ?_
  refine Rj_aload_n (q := 16) d_Sc_clear_15 rfl rfl rfl ?_
  refine Rj_iconst (q := 17) d_Sc_clear_16 rfl ?_
  refine Rj_pi (q := 20) (ki := 5) pD_Sc_47_12 rfl rfl d_Sc_clear_17 rfl ?_
  refine Rj_aload_n (q := 21) d_Sc_clear_20 rfl rfl rfl ?_
  refine Rj_gr (q := 24) (zd := 18) gD_Sc_27_12 rfl rfl d_Sc_clear_21 rfl ?_
  refine Rj_lconst (q := 25) (z := 0) d_Sc_clear_24 rfl rfl ?_
  refine Rj_csv (q := 28) (z := y_Jarr_fill_aJJ) (as := [vA 18, vL 0]) (rest := []) (la := [vA 18, vL 0, vU]) ml_Sc_50 mw_Jarr_fill_aJJ ms_Jarr_fill_aJJ d_Sc_clear_25 rfl rfl rfl rfl rfl ?_
  refine s_Jarr_fill_aJJ aD_18 rfl (fun m25 f25 q25 => ?_)
  refine Rj_aload_n (q := 29) d_Sc_clear_28 rfl rfl rfl ?_
  refine Rj_iconst (q := 30) d_Sc_clear_29 rfl ?_
  refine Rj_pi (q := 33) (ki := 10) pD_Sc_56_12 rfl rfl d_Sc_clear_30 rfl ?_
  refine Rj_aload_n (q := 34) d_Sc_clear_33 rfl rfl rfl ?_
  refine Rj_iconst (q := 35) d_Sc_clear_34 rfl ?_
  refine Rj_pi (q := 38) (ki := 11) pD_Sc_59_12 rfl rfl d_Sc_clear_35 rfl ?_
  refine Rj_aload_n (q := 39) d_Sc_clear_38 rfl rfl rfl ?_
  refine Rj_iconst (q := 40) d_Sc_clear_39 rfl ?_
  refine Rj_pi (q := 43) (ki := 12) pD_Sc_62_12 rfl rfl d_Sc_clear_40 rfl ?_
  refine Rj_aload_n (q := 44) d_Sc_clear_43 rfl rfl rfl ?_
  refine Rj_iconst (q := 45) d_Sc_clear_44 rfl ?_
  refine Rj_pi (q := 48) (ki := 14) pD_Sc_65_12 rfl rfl d_Sc_clear_45 rfl ?_
  refine Rj_aload_n (q := 49) d_Sc_clear_48 rfl rfl rfl ?_
  refine Rj_iconst (q := 50) d_Sc_clear_49 rfl ?_
  refine Rj_pi (q := 53) (ki := 16) pD_Sc_68_12 rfl rfl d_Sc_clear_50 rfl ?_
  refine Rj_vret d_Sc_clear_53 rfl ?_
  refine Rj_iconst (q := 8) d_Sr_read_7 rfl ?_
  refine Rj_istore_n (q := 9) (ls' := [vA 83, vI 1]) d_Sr_read_8 rfl rfl (by decide) rfl ?_
  refine Rj_iconst (q := 10) d_Sr_read_9 rfl ?_
  refine Rj_istore_n (q := 11) (ls' := [vA 83, vI 1, vI 0]) d_Sr_read_10 rfl rfl (by decide) rfl ?_
  refine Rj_iload_n (q := 12) d_Sr_read_11 rfl rfl rfl ?_
  refine Rj_bipush (q := 14) d_Sr_read_12 rfl (by decide +kernel) ?_
  refine Rj_icmp_gt (q := 17) (t := 58) d_Sr_read_14 rfl (by decide) (by decide) (by decide) (fun c => absurd c (by decide)) (fun _ => ?_)
  refine Rj_iload_n (q := 18) d_Sr_read_17 rfl rfl rfl ?_
  refine Rj_if_eq (q := 21) (t := 58) d_Sr_read_18 rfl (by decide) (by decide) (fun c => absurd c (by decide)) (fun _ => ?_)
  have fr : Fr Wrs μ ((mset (mset (mset (mset (mset m25 12 10 0) 12 11 0) 12 12 0) 12 14 0) 12 16 0)) := (Fr.put (Fr.put (Fr.put (Fr.put (Fr.put (Fr.trans (Fr.put (Fr.put (Fr.put (Fr.put (Fr.refl _ _) (by decide)) (by decide)) (by decide)) (by decide)) (Fr.wide f25 (fun c i h => by subst h; simp [Wrs]))) (by decide)) (by decide)) (by decide)) (by decide)) (by decide))
  have r2 : ((mset (mset (mset (mset (mset m25 12 10 0) 12 11 0) 12 12 0) 12 14 0) 12 16 0)) 2 = μ 2 := by
    have : m25 2 = μ 2 := (f25.row (fun i q => by omega)).trans rfl
    exact this
  rw [← rdR_all] at h1 h2
  refine s_readSt_l (μ := (mset (mset (mset (mset (mset m25 12 10 0) 12 11 0) 12 12 0) 12 14 0) 12 16 0)) (σ := (0, 0, 0, 0, 0, 0, dr, jr)) 401 (A := A) (n := n) (by dsimp only; omega) (hT.keep (congrFun r2 1) ((f25.row (fun i q => by omega)).trans rfl)) ((congrFun r2 2).trans hk) (by dsimp only; omega) ((congrFun r2 3).trans hf0) (StOK_0 hX.1 dr jr).1 ⟨?_, ?_, ?_, ?_, fun d d0 d1 => by dsimp only at d1; omega, fun j j0 j1 => by dsimp only at j1; omega⟩ (fun σ m a b c d => h1 σ m a (fr.trans (Fr.wide b (fun c i q => Or.inl q))) c d ⟨?_, ?_, ?_, ?_, fun y y0 y1 => ?_⟩) (fun wr m a b c => h2 wr m a (fr.trans (Fr.wide b (fun c i q => Or.inl q))) c)
  · exact (f25 12 0 (by omega)).trans rfl
  · exact (f25 12 4 (by omega)).trans rfl
  · exact (f25 12 5 (by omega)).trans rfl
  · exact (f25 12 3 (by omega)).trans rfl
  · rw [b 12 10 (by unfold Wrd; omega)]; rfl
  · rw [b 12 11 (by unfold Wrd; omega)]; rfl
  · rw [b 12 12 (by unfold Wrd; omega)]; rfl
  · rw [b 12 14 (by unfold Wrd; omega)]; rfl
  · rw [b 18 y (by unfold Wrd; omega)]
    exact q25 y y0 (by omega)
theorem DRF.scn {μ μ' : Mem} {n x : Int} {σ : StS} (hD : DRF μ σ) (hc : CLR μ) (hO : StOK n σ) (hx : μ 12 16 = x) (cp : CPY μ μ' 3 12) : SCN μ' 3 (rowOf σ x) := by
  obtain ⟨d0, d4, d5, d3, dd, dj⟩ := hD
  obtain ⟨k10, k11, k12, k14, k18⟩ := hc
  obtain ⟨o0, o1, o2, o3, o4, o5, o6⟩ := hO
  obtain ⟨s0, s1, s2, s3, s4, s5, s6, s8, sd, sj⟩ := rowOf_S (x := x) o2.2
  obtain ⟨⟨c0, c3, c4, c10, c11, c12, c14, c16⟩, ca, cb, cc⟩ := cp
  refine ⟨by rw [c0, s0]; exact d0, by rw [c3, s2]; exact d3, by rw [c4, s1]; exact d4, by rw [c10, s3]; exact k10, by rw [c11, s4]; exact k11, by rw [c14, s5]; exact k14, by rw [c12, s6]; exact k12, by rw [c16, s8]; exact hx, fun d e0 e1 => ?_, fun j e0 e1 => ?_, fun d e0 e1 e2 => ?_, fun i e0 e1 => ?_⟩
  · rw [s0] at e1
    have a := ca d e0 (by omega)
    have b := dd d e0 e1
    have q := sd (2 * d) (by omega) (by omega)
    have r := sd (2 * d + 1) (by omega) (by omega)
    refine ⟨by rw [a.1, b.1]; exact q.symm, by rw [a.2.1, b.2, ← r]; exact congrArg (rowOf σ x) (by omega)⟩
  · rw [s1] at e1
    have a := cb j e0 (by omega)
    have b := dj j e0 e1
    have q := sj (3 * j) (by omega) (by omega)
    have r := sj (3 * j + 1) (by omega) (by omega)
    have t := sj (3 * j + 2) (by omega) (by omega)
    refine ⟨by rw [a.1, b.1, ← q]; exact congrArg (rowOf σ x) (by omega), by rw [a.2.1, b.2.1, ← r]; exact congrArg (rowOf σ x) (by omega), by rw [a.2.2, b.2.2, ← t]; exact congrArg (rowOf σ x) (by omega)⟩
  · rw [s6, zbit_0] at e2; exact absurd e2 (by decide)
  · rw [s5] at e1; omega
theorem stLoop_err {A : Int → Int} {n : Int} : ∀ (f : Nat) {σ : StS} {w : Int}, (n - σ.1).toNat < f → StOK n σ → stLoop A n f σ = .error w → 1 ≤ w ∧ w ≤ 5 + 8 * n
  | 0, σ, w, hf, _, _ => by omega
  | f + 1, σ, w, hf, h0, h => by
    have hs := sk_bd A (n := n) (k := σ.1) h0.1.2
    have hs0 := h0.1.1
    by_cases q : sk A n σ.1 < n ∧ A (sk A n σ.1) = 59
    · have hO : StOK n (sk A n σ.1 + 1, σ.2) := ⟨⟨by dsimp only; omega, by dsimp only; omega⟩, h0.2⟩
      cases hc : stClause A n (sk A n σ.1 + 1, σ.2) with
      | error w2 => rw [stLoop_bad q hc] at h; cases h; exact stClause_err hO hc
      | ok τ =>
        rw [stLoop_go q hc] at h
        have h3 := stClause_ok hO hc
        have h4 := h3.2
        dsimp only at h4
        exact stLoop_err f (by omega) h3.1 h
    · by_cases q2 : sk A n σ.1 < n
      · rw [stLoop_bad2 q q2] at h; cases h; omega
      · rw [stLoop_end q q2] at h
        split at h
        · cases h; omega
        · cases h
theorem stAll_err {A : Int → Int} {n : Int} (hn : 0 ≤ n ∧ n ≤ 400) {dr jr : Int → Int} {w : Int} (h : stAll A n dr jr = .error w) : 1 ≤ w ∧ w ≤ 5 + 8 * n := by
  obtain ⟨a, b⟩ := StOK_0 hn.1 dr jr
  unfold stAll at h
  cases hc : stClause A n (0, 0, 0, 0, 0, 0, dr, jr) with
  | error w2 => rw [hc] at h; cases h; exact stClause_err a hc
  | ok τ =>
    rw [hc] at h
    have h3 := stClause_ok a hc
    have := h3.1.1
    exact stLoop_err 401 (by omega) h3.1 h
set_option maxHeartbeats 4000000 in
theorem s_streetD {μ : Mem} {Q : PV → Mem → Prop} {ν : Mem} {nn : Nat} (hC : Cor nn μ ν) (h2 : ∀ wr μ', stAll (ν 1) (ν 0 1) (ν 6) (ν 7) = .error wr → Fr (fun c i => (c = 0 ∧ i = 1) ∨ c = 2 ∨ (12 ≤ c ∧ c ≤ 20)) μ μ' → μ' 0 1 = 0 → Q (vI (-2 - wr)) μ') (h1 : ∀ σ μ' lo up dn lk, stAll (ν 1) (ν 0 1) (ν 6) (ν 7) = .ok σ → Fr (fun c i => (c = 0 ∧ i = 1) ∨ c = 2 ∨ (3 ≤ c ∧ c ≤ 20) ∨ Wft c i) μ μ' → μ' 0 1 = 0 → SCN μ' 3 (rowOf σ (ν 11 8)) → StK (rowOf σ (ν 11 8)) → GX μ' (rowOf σ (ν 11 8)) lo up dn lk (fun _ => 0) → Q (vI σ.2.2.1) μ') : Rj YD y_D_street 0 [vA 0] [] μ Q := by
  obtain ⟨hTP, hK, hSc, h, hM, hSB, hBK, hIM⟩ := id hC
  have t0 := hTP.1
  have t1 := hTP.2.1
  refine Rj_aload_n (q := 1) d_D_street_0 rfl rfl rfl ?_
  refine Rj_gr (q := 4) (zd := 2) gD_D_18_0 rfl rfl d_D_street_1 rfl ?_
  refine Rj_aload_n (q := 5) d_D_street_4 rfl rfl rfl ?_
  refine Rj_gi (q := 8) (ki := 1) (v := ν 0 1) gD_D_104_0 rfl rfl t1 d_D_street_5 rfl ?_
  refine Rj_vov (q := 11) (z := y_Sp_open) (as := [vI (ν 0 1)]) (rest := []) (la := [vA 2, vI (ν 0 1)]) oD_2_Sp_open ml_D_112 mw_Sp_open mv_Sp_open rfl d_D_street_8 rfl rfl rfl rfl rfl ?_
  refine Rj_aload_n (q := 1) d_Sp_open_0 rfl rfl rfl ?_
  refine Rj_iload_n (q := 2) d_Sp_open_1 rfl rfl rfl ?_
  refine Rj_aload_n (q := 3) d_Sp_open_2 rfl rfl rfl ?_
  refine Rj_gr (q := 6) (zd := 1) gD_Sp_9_2 rfl rfl d_Sp_open_3 rfl ?_
  refine Rj_al (q := 7) (zn := 400) aD_1 rfl rfl d_Sp_open_6 rfl ?_
  refine Rj_cs (q := 10) (z := y_Jmath_min_II) (as := [vI (ν 0 1), vI 400]) (rest := [vA 2]) (la := [vI (ν 0 1), vI 400]) ml_Sp_15 mw_Jmath_min_II ms_Jmath_min_II d_Sp_open_7 rfl rfl rfl rfl rfl ?_
  refine Rj_iload_n (q := 1) d_Jmath_min_II_0 rfl rfl rfl ?_
  refine Rj_iload_n (q := 2) d_Jmath_min_II_1 rfl rfl rfl ?_
  refine Rj_icmp_gt (q := 5) (t := 9) d_Jmath_min_II_2 rfl (by decide) ⟨by omega, by omega⟩ (by decide) (fun c8_7_2 => ?_) (fun c8_7_2 => ?_)
  · exact absurd c8_7_2 (by omega)
  · refine Rj_iload_n (q := 6) d_Jmath_min_II_5 rfl rfl rfl ?_
    refine Rj_goto (t := 10) d_Jmath_min_II_6 (by decide) ?_
    refine Rj_iret d_Jmath_min_II_10 rfl ?_
    refine Rj_pi (q := 13) (ki := 1) pD_Sp_21_2 rfl rfl d_Sp_open_10 rfl ?_
    refine Rj_aload_n (q := 14) d_Sp_open_13 rfl rfl rfl ?_
    refine Rj_iconst (q := 15) d_Sp_open_14 rfl ?_
    refine Rj_pi (q := 18) (ki := 2) pD_Sp_25_2 rfl rfl d_Sp_open_15 rfl ?_
    refine Rj_aload_n (q := 19) d_Sp_open_18 rfl rfl rfl ?_
    refine Rj_iconst (q := 20) d_Sp_open_19 rfl ?_
    refine Rj_pi (q := 23) (ki := 3) pD_Sp_28_2 rfl rfl d_Sp_open_20 rfl ?_
    refine Rj_vret d_Sp_open_23 rfl ?_
    refine Rj_aload_n (q := 12) d_D_street_11 rfl rfl rfl ?_
    refine Rj_gr (q := 15) (zd := 83) gD_D_79_0 rfl rfl d_D_street_12 rfl ?_
    refine Rj_vov (q := 18) (z := y_Sr_read) (as := []) (rest := []) (la := [vA 83]) oD_83_Sr_read ml_D_115 mw_Sr_read mv_Sr_read rfl d_D_street_15 rfl rfl rfl rfl rfl ?_
    have fr0 : Fr (fun c i => (c = 0 ∧ i = 1) ∨ c = 2 ∨ (12 ≤ c ∧ c ≤ 20)) μ ((mset (mset (mset μ 2 1 (ν 0 1)) 2 2 0) 2 3 0)) := (Fr.put (Fr.put (Fr.put (Fr.refl _ _) (Or.inr (Or.inl rfl))) (Or.inr (Or.inl rfl))) (Or.inr (Or.inl rfl)))
    refine s_readSt (μ := (mset (mset (mset μ 2 1 (ν 0 1)) 2 2 0) 2 3 0)) (A := ν 1) (n := ν 0 1) (dr := ν 6) (jr := ν 7) ⟨⟨hTP.1, fun i i0 i1 => ?_⟩, rfl, fun i i0 i1 => ?_⟩ rfl rfl (fun σ m q f d g cl => ?_) (fun wr m q f g => ?_)
    · have := hTP.2.2 i i0 i1
      split at this <;> omega
    · have := hTP.2.2 i i0 i1
      show (μ 1 i = ν 1 i ∧ 0 ≤ ν 1 i) ∨ (μ 1 i = ν 1 i + 256 ∧ ν 1 i < 0)
      split at this <;> omega
    · have fr1 : Fr (fun c i => (c = 0 ∧ i = 1) ∨ c = 2 ∨ (12 ≤ c ∧ c ≤ 20)) μ m := fr0.trans (Fr.wide f (fun c i q => by unfold Wrs Wrd at q; omega))
      obtain ⟨i1, i2, i3⟩ := stAll_inv hTP.1.1 q
      have x16 : m 3 16 = ν 11 8 := (fr1 3 16 (by omega)).trans hSc.2.2.2.2.2.2.2.1
      refine Rj_aload_n (q := 19) d_D_street_18 rfl rfl rfl ?_
      refine Rj_iconst (q := 20) d_D_street_19 rfl ?_
      refine Rj_pi (q := 23) (ki := 1) pD_D_104_0 rfl rfl d_D_street_20 rfl ?_
      refine Rj_aload_n (q := 24) d_D_street_23 rfl rfl rfl ?_
      refine Rj_gr (q := 27) (zd := 2) gD_D_18_0 rfl rfl d_D_street_24 rfl ?_
      refine Rj_gi (q := 30) (ki := 3) (v := 0) gD_D_118_2 rfl rfl g d_D_street_27 rfl ?_
      refine Rj_if_eq (q := 33) (t := 44) d_D_street_30 rfl (by decide) (by decide) (fun _ => ?_) (fun c => absurd c (by decide))
      refine Rj_aload_n (q := 45) d_D_street_44 rfl rfl rfl ?_
      refine Rj_gr (q := 48) (zd := 12) gD_D_29_0 rfl rfl d_D_street_45 rfl ?_
      refine Rj_aload_n (q := 49) d_D_street_48 rfl rfl rfl ?_
      refine Rj_gr (q := 52) (zd := 3) gD_D_25_0 rfl rfl d_D_street_49 rfl ?_
      refine Rj_gi (q := 55) (ki := 16) (v := ν 11 8) gD_D_121_3 rfl rfl x16 d_D_street_52 rfl ?_
      refine Rj_pi (q := 58) (ki := 16) pD_D_121_12 rfl rfl d_D_street_55 rfl ?_
      refine Rj_aload_n (q := 59) d_D_street_58 rfl rfl rfl ?_
      refine Rj_gr (q := 62) (zd := 3) gD_D_25_0 rfl rfl d_D_street_59 rfl ?_
      refine Rj_aload_n (q := 63) d_D_street_62 rfl rfl rfl ?_
      refine Rj_gr (q := 66) (zd := 12) gD_D_29_0 rfl rfl d_D_street_63 rfl ?_
      refine Rj_vov (q := 69) (z := y_Sc_copyFrom) (as := [vA 12]) (rest := []) (la := [vA 3, vA 12]) oD_3_Sc_copyFrom ml_D_124 mw_Sc_copyFrom mv_Sc_copyFrom rfl d_D_street_66 rfl rfl rfl rfl rfl ?_
      refine s_copy_3_12 (μ := (mset (mset m 0 1 0) 12 16 (ν 11 8))) (fun m2 f2 q2 => ?_)
      refine Rj_aload_n (q := 70) d_D_street_69 rfl rfl rfl ?_
      refine Rj_gr (q := 73) (zd := 59) gD_D_45_0 rfl rfl d_D_street_70 rfl ?_
      refine Rj_vov (q := 76) (z := y_Ge_fit) (as := []) (rest := []) (la := [vA 59]) oD_59_Ge_fit ml_D_127 mw_Ge_fit mv_Ge_fit rfl d_D_street_73 rfl rfl rfl rfl rfl ?_
      have hx := hK.2.2.2.2.2.2.2.2
      have hSt := (rowOf_S (x := ν 11 8) i1.2.2.1.2).ok hx i1 i2
      have hN : SCN m2 3 (rowOf σ (ν 11 8)) := DRF.scn (μ := (mset (mset m 0 1 0) 12 16 (ν 11 8))) (x := ν 11 8) d cl i1 rfl q2
      refine s_fit0 hSt.1 (hN.gt hSt) (fun m3 lo up dn lk f3 g3 e3 => ?_)
      have rr : ∀ c, (∀ i, ¬ Wft c i) → m3 c = m2 c := fun c h => f3.row h
      have hN3 : SCN m3 3 (rowOf σ (ν 11 8)) := hN.keep (fun c i q1 q3 => f3 c i (by unfold Wft; omega))
      have dd3 : m3 3 0 = σ.2.2.1 := hN3.1
      have od := i1.2.2.1
      have t0 := hN.gt hSt
      have gx : GX m3 (rowOf σ (ν 11 8)) lo up dn lk (fun _ => 0) := by
        refine ⟨hSt.1, ?_, g3, e3, fun d d0 d1 => ?_, fun d d0 d1 => by dsimp only; omega⟩
        · unfold GT GS
          rw [rr 3 (fun i => by unfold Wft; omega), rr 4 (fun i => by unfold Wft; omega), rr 5 (fun i => by unfold Wft; omega), rr 6 (fun i => by unfold Wft; omega), rr 7 (fun i => by unfold Wft; omega), rr 8 (fun i => by unfold Wft; omega)]
          exact t0
        · have h0 := hSt.1.1
          rw [rr 9 (fun i => by unfold Wft; omega), (q2.2.1 d d0 (by omega)).2.2.1]
          show m 18 d * _ = _
          rw [cl.2.2.2.2 d d0 (by omega), Int.zero_mul, Int.zero_mul]
      refine Rj_aload_n (q := 77) d_D_street_76 rfl rfl rfl ?_
      refine Rj_gr (q := 80) (zd := 3) gD_D_25_0 rfl rfl d_D_street_77 rfl ?_
      refine Rj_gi (q := 83) (ki := 0) (v := σ.2.2.1) gD_D_130_3 rfl rfl dd3 d_D_street_80 rfl ?_
      refine Rj_iret d_D_street_83 rfl ?_
      refine h1 σ m3 lo up dn lk q ?_ ?_ hN3 hSt gx
      · exact ((((Fr.wide fr1 (fun c i q => by omega)).put (Or.inl ⟨rfl, rfl⟩)).put (by omega)).trans (Fr.wide f2 (fun c i q => by unfold Wcp3 at q; omega))).trans (Fr.wide f3 (fun c i q => Or.inr (Or.inr (Or.inr q))))
      · rw [f3 0 1 (by unfold Wft; omega), f2 0 1 (by unfold Wcp3; omega)]
        rfl
    · have fr1 : Fr (fun c i => (c = 0 ∧ i = 1) ∨ c = 2 ∨ (12 ≤ c ∧ c ≤ 20)) μ m := fr0.trans (Fr.wide f (fun c i q => by unfold Wrs Wrd at q; omega))
      have bw : 1 ≤ wr ∧ wr ≤ 5 + 8 * ν 0 1 := stAll_err hTP.1 q
      refine Rj_aload_n (q := 19) d_D_street_18 rfl rfl rfl ?_
      refine Rj_iconst (q := 20) d_D_street_19 rfl ?_
      refine Rj_pi (q := 23) (ki := 1) pD_D_104_0 rfl rfl d_D_street_20 rfl ?_
      refine Rj_aload_n (q := 24) d_D_street_23 rfl rfl rfl ?_
      refine Rj_gr (q := 27) (zd := 2) gD_D_18_0 rfl rfl d_D_street_24 rfl ?_
      refine Rj_gi (q := 30) (ki := 3) (v := wr) gD_D_118_2 rfl rfl g d_D_street_27 rfl ?_
      refine Rj_if_eq (q := 33) (t := 44) d_D_street_30 rfl (by decide) ⟨by omega, by omega⟩ (fun c30 => ?_) (fun c30 => ?_)
      · exact absurd c30 (by omega)
      · refine Rj_bipush (q := 35) d_D_street_33 rfl (by decide +kernel) ?_
        refine Rj_aload_n (q := 36) d_D_street_35 rfl rfl rfl ?_
        refine Rj_gr (q := 39) (zd := 2) gD_D_18_0 rfl rfl d_D_street_36 rfl ?_
        refine Rj_gi (q := 42) (ki := 3) (v := wr) gD_D_118_2 rfl rfl g d_D_street_39 rfl ?_
        refine Rj_isub (q := 43) d_D_street_42 rfl ?_
        refine Rj_iret d_D_street_43 rfl ?_
        exact h2 wr _ q (Fr.put fr1 (Or.inl ⟨rfl, rfl⟩)) rfl
theorem C_street {n : Nat} {μ ν : Mem} (hC : Cor n μ ν) : Rj YD y_D_street 0 [vA 0] [] μ (fun r μ' => Rj YM y_M_street 0 [vA 0] [] ν (fun r' ν' => Sm 1 r' r ∧ Cor (n + 1) μ' ν' ∧ Kp μ μ' ∧ Kq ν ν')) := by
  obtain ⟨hTP, hK, hSc, hG, hM, hSB, hBK, hIM⟩ := hC.next
  have hX : TX (ν 1) (ν 0 1) := ⟨hTP.1, fun i i0 i1 => by have := hTP.2.2 i i0 i1; split at this <;> omega⟩
  have hx := hK.2.2.2.2.2.2.2.2
  refine s_streetD hC (fun wr μ' q f t => ?_) (fun σ μ' lo up dn lk q f t hN hSt gx => ?_)
  · refine s_M_street hX hx (fun wr' ν' q' g t' => ?_) (fun σ ν' q' => by rw [q] at q'; cases q')
    rw [q] at q'
    cases q'
    have r : ∀ c, c ≠ 0 → c ≠ 3 → c ≠ 6 → c ≠ 7 → ν' c = ν c := fun c a1 a2 a3 a4 => g.row (fun i q => by unfold Wra at q; omega)
    refine ⟨sm_I rfl, ⟨⟨by rw [t']; decide, by rw [t, t'], ?_⟩, by rw [r 11 (by decide) (by decide) (by decide) (by decide)]; exact hK, by rw [r 11 (by decide) (by decide) (by decide) (by decide)]; exact hSc.keep (fun c i a b => f c i (by omega)), ?_, ?_, by rw [r 11 (by decide) (by decide) (by decide) (by decide), r 12 (by decide) (by decide) (by decide) (by decide)]; exact hSB, by rw [r 12 (by decide) (by decide) (by decide) (by decide)]; exact hBK, hIM.keep (fun c i a b => f c i (by omega)) (r 24 (by decide) (by decide) (by decide) (by decide)) (r 25 (by decide) (by decide) (by decide) (by decide)) (r 26 (by decide) (by decide) (by decide) (by decide))⟩, fun c i q => f c i (by omega), fun c i q => g c i (by unfold Wra; omega)⟩
    · rw [f.row (c := 1) (fun i => by omega), r 1 (by decide) (by decide) (by decide) (by decide)]; exact hTP.2.2
    · rw [r 11 (by decide) (by decide) (by decide) (by decide), r 12 (by decide) (by decide) (by decide) (by decide), r 14 (by decide) (by decide) (by decide) (by decide), r 15 (by decide) (by decide) (by decide) (by decide), r 16 (by decide) (by decide) (by decide) (by decide), r 17 (by decide) (by decide) (by decide) (by decide)]
      exact hG.keep (fun c i q => f c i (by unfold gxc at q; omega))
    · unfold MX
      rw [r 11 (by decide) (by decide) (by decide) (by decide), r 12 (by decide) (by decide) (by decide) (by decide), r 14 (by decide) (by decide) (by decide) (by decide), r 15 (by decide) (by decide) (by decide) (by decide), r 16 (by decide) (by decide) (by decide) (by decide), r 17 (by decide) (by decide) (by decide) (by decide), g 0 32 (by unfold Wra; omega)]
      exact hM
  · refine s_M_street hX hx (fun wr' ν' q' => by rw [q] at q'; cases q') (fun σ' ν' q' g t' ag pz hM' => ?_)
    rw [q] at q'
    cases q'
    have r : ∀ c, c ≠ 0 → c ≠ 3 → c ≠ 6 → c ≠ 7 → c ≠ 11 → c ≠ 12 → (c < 14 ∨ 17 < c) → ν' c = ν c := fun c a1 a2 a3 a4 a5 a6 a7 => g.row (fun i q => by unfold Wra Wst2 Whs at q; omega)
    have e1 := r 1 (by decide) (by decide) (by decide) (by decide) (by decide) (by decide) (by decide)
    refine ⟨sm_I rfl, ⟨⟨by rw [t']; decide, by rw [t, t'], ?_⟩, hSt.c ag, SCN.c ag hSt hN (CPY.same (fun c i _ _ => rfl)), ((ag.ag.gx gx).pl (fun d d0 d1 => pz d d0 d1)).re hM'.2.1, hM', ?_, fun d d0 d1 => ?_, hIM.keep (fun c i a b => f c i (by unfold Wft; omega)) (r 24 (by decide) (by decide) (by decide) (by decide) (by decide) (by decide) (by decide)) (r 25 (by decide) (by decide) (by decide) (by decide) (by decide) (by decide) (by decide)) (r 26 (by decide) (by decide) (by decide) (by decide) (by decide) (by decide) (by decide))⟩, fun c i q => f c i (by unfold Wft; omega), fun c i q => g c i (by unfold Wra Wst2 Whs; omega)⟩
    · rw [f.row (c := 1) (fun i => by unfold Wft; omega), e1]; exact hTP.2.2
    · intro d d0 d1 d2
      have hs := hM'.1.1
      rw [pz d d0 (by omega)]
      have hp := pts_bd hM'.1
      exact ⟨Int.le_refl 0, Int.mul_nonneg (by omega) (by omega)⟩
    · rw [pz d d0 d1]; omega
