theorem oD_74_Pl_bound : OI YD 74 y_Pl_bound := ⟨by decide, _, _, _, cD_74, rfl⟩
theorem pD_Pl_67_74 : PI YD "DoorsOnCogs$Planner" 67 74 9 none .int := ⟨by decide, _, _, _, fl_Pl_67, fp_3_9, cD_74, by decide, rfl⟩
theorem gD_Pl_70_3 : GI YD "DoorsOnCogs$Planner" 70 3 10 none := ⟨by decide, _, _, _, fl_Pl_70, cD_3, by decide, rfl⟩
theorem pD_Pl_73_74 : PI YD "DoorsOnCogs$Planner" 73 74 10 none .int := ⟨by decide, _, _, _, fl_Pl_73, fp_3_10, cD_74, by decide, rfl⟩
theorem gD_Pl_74_3 : GI YD "DoorsOnCogs$Planner" 74 3 11 none := ⟨by decide, _, _, _, fl_Pl_74, cD_3, by decide, rfl⟩
theorem pD_Pl_77_74 : PI YD "DoorsOnCogs$Planner" 77 74 11 none .int := ⟨by decide, _, _, _, fl_Pl_77, fp_3_11, cD_74, by decide, rfl⟩
theorem pD_Pl_78_74 : PI YD "DoorsOnCogs$Planner" 78 74 13 none .int := ⟨by decide, _, _, _, fl_Pl_78, fp_3_13, cD_74, by decide, rfl⟩
/-! the class chooses a set -/
/-- what the planner holds of the set of l, told tc (may be pushed) and wt (watched) -/
def CHO (μ : Mem) (S lo lk : Int → Int) (l tc wt wo ws wa pu a b : Int) : Prop :=
  (μ 74 9 = l ∧ μ 74 10 = wo ∧ μ 74 11 = ws ∧ μ 74 12 = pu ∧ μ 74 13 = wa ∧ μ 74 14 = a ∧ μ 74 15 = b) ∧
  ((0 ≤ wo ∧ wo < 4096) ∧ (0 ≤ ws ∧ ws < 4096) ∧ (0 ≤ pu ∧ pu < 4096) ∧ (0 ≤ wa ∧ wa < 4096)) ∧
  (∀ x, 0 ≤ x → ((zbit wo x = 1 ↔ (x < S 0 ∧ lo x = l) ∧ zbit (S 3) x = 1) ∧ (zbit ws x = 1 ↔ (x < S 0 ∧ lo x = l) ∧ zbit (S 4) x = 1) ∧ (zbit wa x = 1 ↔ (x < S 0 ∧ lo x = l) ∧ zbit wt x = 1))) ∧
  (∀ x, 0 ≤ x → zbit pu x = 1 → (x < S 0 ∧ lo x = l) ∧ zbit tc x = 1 ∧ ¬ zbit (S 2) x = 1 ∧ ¬ lk x = 1) ∧
  (∀ x, 0 ≤ x → x < S 0 → lo x = l → zbit tc x = 1 → ¬ zbit (S 2) x = 1 → ¬ lk x = 1 → zbit pu x = 1 ∨ PAL μ l pu x) ∧
  ((-1152921504606846976 ≤ a ∧ a ≤ 0) ∧ (0 ≤ b ∧ b ≤ 1152921504606846976) ∧ ∀ t, -1152921504606846976 ≤ t → t ≤ 1152921504606846976 → ((a ≤ t ∧ t ≤ b) ↔ ∀ x, 0 ≤ x → x < S 0 → lo x = l → 0 < spn S x → μ 64 (l * 12 + x) ≠ 0 → BN1 (μ 9) (μ 63) (μ 64) S l x t))
theorem BND.cho {q9 q63 q64 S lo : Int → Int} {l sx a b : Int} (h : BND q9 q63 q64 S l sx (S 0) a b) (hs : ∀ k, 0 ≤ k → (zbit sx k = 1 ↔ k < S 0 ∧ lo k = l)) : (-1152921504606846976 ≤ a ∧ a ≤ 0) ∧ (0 ≤ b ∧ b ≤ 1152921504606846976) ∧ ∀ t, -1152921504606846976 ≤ t → t ≤ 1152921504606846976 → ((a ≤ t ∧ t ≤ b) ↔ ∀ x, 0 ≤ x → x < S 0 → lo x = l → 0 < spn S x → q64 (l * 12 + x) ≠ 0 → BN1 q9 q63 q64 S l x t) :=
  ⟨h.1, h.2.1, fun t t0 t1 => (h.2.2 t t0 t1).trans ⟨fun q x x0 x1 x2 => q x x0 x1 ((hs x x0).mpr ⟨x1, x2⟩), fun q x x0 x1 x2 => q x x0 x1 ((hs x x0).mp x2).2⟩⟩
set_option maxHeartbeats 4000000 in
theorem s_bound {μ : Mem} {Q : PV → Mem → Prop} {S lo up dn lk pl : Int → Int} {l sx : Int} (h : GX μ S lo up dn lk pl) (hsb : SB S pl) (hl : 0 ≤ l ∧ l < S 0) (hf : μ 74 9 = l) (hsx : 0 ≤ sx ∧ sx < 4096) (hQ : ∀ μ' a' b', Fr (fun c i => c = 74 ∧ (i = 14 ∨ i = 15)) μ μ' → μ' 74 14 = a' → μ' 74 15 = b' → BND (μ 9) (μ 63) (μ 64) S l sx (S 0) a' b' → Q vU μ') : Rj YD y_Pl_bound 0 [vA 74, vI sx] [] μ Q := by
  obtain ⟨z0, z1, z2, z3, z4, z5, z6, z7⟩ := h.z
  refine Rj_aload_n (q := 1) d_Pl_bound_0 rfl rfl rfl ?_
  refine Rj_ldc2 (q := 4) k_Pl_111 d_Pl_bound_1 rfl ?_
  refine Rj_pl (q := 7) (ki := 14) pD_Pl_113_74 rfl rfl d_Pl_bound_4 rfl ?_
  refine Rj_aload_n (q := 8) d_Pl_bound_7 rfl rfl rfl ?_
  refine Rj_ldc2 (q := 11) k_Pl_117 d_Pl_bound_8 rfl ?_
  refine Rj_pl (q := 14) (ki := 15) pD_Pl_119_74 rfl rfl d_Pl_bound_11 rfl ?_
  refine Rj_iconst (q := 15) d_Pl_bound_14 rfl ?_
  refine Rj_istore_n (q := 16) (ls' := [vA 74, vI sx, vI 0]) d_Pl_bound_15 rfl rfl (by decide) rfl ?_
  exact s_bound_16 (μ := (mset (mset μ 74 14 (-1152921504606846976)) 74 15 1152921504606846976)) (a := -1152921504606846976) (b := 1152921504606846976) _ (Nat.lt_succ_self _) (h.keep (fun c i q => (mset_o (by unfold gxc at q; omega)).trans (mset_o (by unfold gxc at q; omega)))) hsb hl hf hsx (by omega) rfl rfl ⟨by decide, by decide, fun t t0 t1 => ⟨fun _ x x0 x1 => by omega, fun _ => ⟨t0, t1⟩⟩⟩ (fun m a' b' f1 k1 k2 k3 => hQ m a' b' ((Fr.put (Fr.put (Fr.refl _ _) ⟨rfl, Or.inl rfl⟩) ⟨rfl, Or.inr rfl⟩).trans f1) k1 k2 k3)
abbrev Wch (c : Nat) (i : Int) : Prop := c = 74 ∧ 9 ≤ i ∧ i ≤ 15
set_option maxHeartbeats 4000000 in
theorem s_choose_147 {μ : Mem} {Q : PV → Mem → Prop} {x tc wt sx : Int} (hQ : Rj YD y_Pl_bound 0 [vA 74, vI sx] [] μ (fun _ m => Q vU m)) : Rj YD y_Pl_choose 147 [vA 74, vI x, vI tc, vI wt, vI sx] [] μ Q := by
  refine Rj_aload_n (q := 148) d_Pl_choose_147 rfl rfl rfl ?_
  refine Rj_iload (q := 150) d_Pl_choose_148 rfl rfl ?_
  refine Rj_vov (q := 153) (z := y_Pl_bound) (as := [vI sx]) (rest := []) (la := [vA 74, vI sx]) oD_74_Pl_bound ml_Pl_97 mw_Pl_bound mv_Pl_bound rfl d_Pl_choose_150 rfl rfl rfl rfl rfl ?_
  refine Rj_mono (fun r m q => ?_) hQ
  refine Rj_vret d_Pl_choose_153 rfl ?_
  exact q
set_option maxHeartbeats 4000000 in
theorem s_choose {μ : Mem} {Q : PV → Mem → Prop} {S lo up dn lk pl : Int → Int} {l tc wt : Int} (h : GX μ S lo up dn lk pl) (hsb : SB S pl) (hl : 0 ≤ l ∧ l < S 0 ∧ lo l = l) (hw3 : (0 ≤ S 3 ∧ S 3 < 4096) ∧ μ 3 10 = S 3) (hw4 : (0 ≤ S 4 ∧ S 4 < 4096) ∧ μ 3 11 = S 4) (htc : 0 ≤ tc ∧ tc < 4096) (hwt : 0 ≤ wt ∧ wt < 4096) (hQ : ∀ μ' wo ws wa pu a b, Fr Wch μ μ' → CHO μ' S lo lk l tc wt wo ws wa pu a b → Q vU μ') : Rj YD y_Pl_choose 0 [vA 74, vI l, vI tc, vI wt] [] μ Q := by
  obtain ⟨z0, z1, z2, z3, z4, z5, z6, z7⟩ := h.z
  refine Rj_aload_n (q := 1) d_Pl_choose_0 rfl rfl rfl ?_
  refine Rj_gr (q := 4) (zd := 59) gD_Pl_29_74 rfl rfl d_Pl_choose_1 rfl ?_
  refine Rj_iload_n (q := 5) d_Pl_choose_4 rfl rfl rfl ?_
  refine Rj_vo (q := 8) (z := y_Ge_setOf) (as := [vI l]) (rest := []) (la := [vA 59, vI l]) oD_59_Ge_setOf ml_Pl_63 mw_Ge_setOf mv_Ge_setOf rfl d_Pl_choose_5 rfl rfl rfl rfl rfl ?_
  refine s_setOf_59 h.1 h.2.1.1 ⟨hl.1, hl.2.1⟩ (fun y y0 y1 => by have := h.d ⟨y0, y1⟩; omega) (fun sx rx bx => ?_)
  have hs : ∀ k, 0 ≤ k → (zbit sx k = 1 ↔ k < S 0 ∧ lo k = l) := fun k k0 => (bx k k0).trans ⟨fun q => ⟨q.1, by have e1 := h.2.2.2.1.1 k k0 q.1; have e2 := h.2.2.2.1.1 l hl.1 hl.2.1; have := q.2; omega⟩, fun q => ⟨q.1, by have e1 := h.2.2.2.1.1 k k0 q.1; have e2 := h.2.2.2.1.1 l hl.1 hl.2.1; have := q.2; omega⟩⟩
  refine Rj_istore (q := 10) (ls' := [vA 74, vI l, vI tc, vI wt, vI sx]) d_Pl_choose_8 rfl (by decide) rfl ?_
  refine Rj_aload_n (q := 11) d_Pl_choose_10 rfl rfl rfl ?_
  refine Rj_iload_n (q := 12) d_Pl_choose_11 rfl rfl rfl ?_
  refine Rj_pi (q := 15) (ki := 9) pD_Pl_67_74 rfl rfl d_Pl_choose_12 rfl ?_
  refine Rj_aload_n (q := 16) d_Pl_choose_15 rfl rfl rfl ?_
  refine Rj_aload_n (q := 17) d_Pl_choose_16 rfl rfl rfl ?_
  refine Rj_gr (q := 20) (zd := 3) gD_Pl_25_74 rfl rfl d_Pl_choose_17 rfl ?_
  refine Rj_gi (q := 23) (ki := 10) (v := S 3) gD_Pl_70_3 rfl rfl hw3.2 d_Pl_choose_20 rfl ?_
  refine Rj_iload (q := 25) d_Pl_choose_23 rfl rfl ?_
  refine Rj_iand (q := 26) (z := z_and (S 3) sx) d_Pl_choose_25 rfl rfl ?_
  refine Rj_pi (q := 29) (ki := 10) pD_Pl_73_74 rfl rfl d_Pl_choose_26 rfl ?_
  refine Rj_aload_n (q := 30) d_Pl_choose_29 rfl rfl rfl ?_
  refine Rj_aload_n (q := 31) d_Pl_choose_30 rfl rfl rfl ?_
  refine Rj_gr (q := 34) (zd := 3) gD_Pl_25_74 rfl rfl d_Pl_choose_31 rfl ?_
  refine Rj_gi (q := 37) (ki := 11) (v := S 4) gD_Pl_74_3 rfl rfl hw4.2 d_Pl_choose_34 rfl ?_
  refine Rj_iload (q := 39) d_Pl_choose_37 rfl rfl ?_
  refine Rj_iand (q := 40) (z := z_and (S 4) sx) d_Pl_choose_39 rfl rfl ?_
  refine Rj_pi (q := 43) (ki := 11) pD_Pl_77_74 rfl rfl d_Pl_choose_40 rfl ?_
  refine Rj_aload_n (q := 44) d_Pl_choose_43 rfl rfl rfl ?_
  refine Rj_iload_n (q := 45) d_Pl_choose_44 rfl rfl rfl ?_
  refine Rj_iload (q := 47) d_Pl_choose_45 rfl rfl ?_
  refine Rj_iand (q := 48) (z := z_and wt sx) d_Pl_choose_47 rfl rfl ?_
  refine Rj_pi (q := 51) (ki := 13) pD_Pl_78_74 rfl rfl d_Pl_choose_48 rfl ?_
  refine Rj_aload_n (q := 52) d_Pl_choose_51 rfl rfl rfl ?_
  refine Rj_iconst (q := 53) d_Pl_choose_52 rfl ?_
  refine Rj_pi (q := 56) (ki := 12) pD_Pl_81_74 rfl rfl d_Pl_choose_53 rfl ?_
  refine Rj_iconst (q := 57) d_Pl_choose_56 rfl ?_
  refine Rj_istore (q := 59) (ls' := [vA 74, vI l, vI tc, vI wt, vI sx, vI 0]) d_Pl_choose_57 rfl (by decide) rfl ?_
  have ao := z_and_rng (a := S 3) (b := sx) (n := 12) (by decide) ⟨by omega, by omega⟩ ⟨by omega, by omega⟩
  have as' := z_and_rng (a := S 4) (b := sx) (n := 12) (by decide) ⟨by omega, by omega⟩ ⟨by omega, by omega⟩
  have aw := z_and_rng (a := wt) (b := sx) (n := 12) (by decide) ⟨by omega, by omega⟩ ⟨by omega, by omega⟩
  refine s_choose_59 (μ := (mset (mset (mset (mset (mset μ 74 9 l) 74 10 (z_and (S 3) sx)) 74 11 (z_and (S 4) sx)) 74 13 (z_and wt sx)) 74 12 0)) (l := l) (pu := 0) (D := S 0) _ (Nat.lt_succ_self _) (by omega) rfl rfl (by decide) (fun p p0 p1 => h.stb ⟨p0, p1⟩ ⟨hl.1, hl.2.1⟩) z2 z0 (by omega) rx ?_ z7 (by omega) ⟨fun k k0 k1 => by rw [zbit_0] at k1; omega, fun k k0 k1 => by omega⟩ (fun m pu f1 e1 rp hP => ?_)
  · show 0 ≤ μ 3 3 ∧ μ 3 3 < 4096
    omega
  have fm : Fr Wch μ m := Fr.trans (Fr.put (Fr.put (Fr.put (Fr.put (Fr.put (Fr.refl _ _) (by unfold Wch; omega)) (by unfold Wch; omega)) (by unfold Wch; omega)) (by unfold Wch; omega)) (by unfold Wch; omega)) (Fr.wide f1 (fun c i q => by unfold Wch; omega))
  have gm : GX m S lo up dn lk pl := h.fr fm (fun c i q => by unfold gxc at q; unfold Wch; omega)
  refine s_choose_147 (s_bound (l := l) gm hsb ⟨hl.1, hl.2.1⟩ ((f1 74 9 (by omega)).trans rfl) rx (fun m2 a b f2 k1 k2 k3 => ?_))
  have fo : Fr Wch μ m2 := fm.trans (Fr.wide f2 (fun c i q => by unfold Wch; omega))
  have r9 : m2 9 = m 9 := f2.row (fun i q => by omega)
  have r63 : m2 63 = m 63 := f2.row (fun i q => by omega)
  have r64 : m2 64 = m 64 := f2.row (fun i q => by omega)
  have z4m : m 3 3 = S 2 := (fm 3 3 (by unfold Wch; omega)).trans z4
  have z7m : m 59 7 = μ 59 7 := fm 59 7 (by unfold Wch; omega)
  have zor : ∀ k, 0 ≤ k → k < S 0 → (zbit (z_or (μ 3 3) (μ 59 7)) k = 1 ↔ zbit (S 2) k = 1 ∨ lk k = 1) := fun k k0 k1 => by
    rw [zbit_or (by omega) (by omega) k0, z4, (h.d ⟨k0, k1⟩).2.2.2.2.2.2.2.2.2.2.2.2]
  refine hQ m2 (z_and (S 3) sx) (z_and (S 4) sx) (z_and wt sx) pu a b fo ⟨⟨(f2 74 9 (by omega)).trans ((f1 74 9 (by omega)).trans rfl), (f2 74 10 (by omega)).trans ((f1 74 10 (by omega)).trans rfl), (f2 74 11 (by omega)).trans ((f1 74 11 (by omega)).trans rfl), (f2 74 12 (by omega)).trans e1, (f2 74 13 (by omega)).trans ((f1 74 13 (by omega)).trans rfl), k1, k2⟩, ⟨ao, as', rp, aw⟩, fun x x0 => ⟨?_, ?_, ?_⟩, fun x x0 x1 => ?_, fun x x0 x1 x2 x3 x4 x5 => ?_, ?_⟩
  · rw [zbit_and (by omega) (by omega) x0, hs x x0]; exact And.comm
  · rw [zbit_and (by omega) (by omega) x0, hs x x0]; exact And.comm
  · rw [zbit_and (by omega) (by omega) x0, hs x x0]; exact And.comm
  · have q := hP.1 x x0 x1
    rw [zbit_and (by omega) (by omega) x0, hs x x0] at q
    have q3 := fun r => q.2.2 ((zor x x0 q.1).mpr r)
    exact ⟨q.2.1.2, q.2.1.1, fun r => q3 (Or.inl r), fun r => q3 (Or.inr r)⟩
  · have q := hP.2 x x0 x1 ((zbit_and (by omega) (by omega) x0).mpr ⟨x3, (hs x x0).mpr ⟨x1, x2⟩⟩) (fun r => ((zor x x0 x1).mp r).elim x4 x5)
    refine q.elim Or.inl (fun r => Or.inr ?_)
    unfold PAL at r ⊢
    rw [r64]; exact r
  · rw [r9, r63, r64]
    exact k3.cho hs
