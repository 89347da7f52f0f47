theorem gD_Pl_122_3 : GI YD "DoorsOnCogs$Planner" 122 3 2 (some (some 5)) := ⟨by decide, _, _, _, fl_Pl_122, cD_3, by decide, rfl⟩
theorem gD_Pl_119_74 : GI YD "DoorsOnCogs$Planner" 119 74 15 (some none) := ⟨by decide, _, _, _, fl_Pl_119, cD_74, by decide, rfl⟩
theorem pD_Pl_119_74 : PI YD "DoorsOnCogs$Planner" 119 74 15 (some none) .long := ⟨by decide, _, _, _, fl_Pl_119, fp_3_15, cD_74, by decide, rfl⟩
theorem gD_Pl_113_74 : GI YD "DoorsOnCogs$Planner" 113 74 14 (some none) := ⟨by decide, _, _, _, fl_Pl_113, cD_74, by decide, rfl⟩
theorem pD_Pl_113_74 : PI YD "DoorsOnCogs$Planner" 113 74 14 (some none) .long := ⟨by decide, _, _, _, fl_Pl_113, fp_3_14, cD_74, by decide, rfl⟩
/-! the class: how far a set may turn -/
theorem td_spec {x q t : Int} (hx : 0 ≤ x) (hq : 0 < q) : (0 ≤ x.tdiv q ∧ x.tdiv q ≤ x) ∧ (t ≤ x.tdiv q ↔ t * q ≤ x) := by
  rw [Int.tdiv_eq_ediv_of_nonneg hx]
  exact ⟨⟨Int.ediv_nonneg hx (by omega), Int.ediv_le_self q hx⟩, Int.le_ediv_iff_mul_le hq⟩
theorem bnd_pos {k c p t : Int} (hp : 0 < p) (hk : 0 ≤ k) (hc : 0 ≤ c - k) : (-(k.tdiv (p.natAbs : Int)) ≤ t ∧ t ≤ (c - k).tdiv (p.natAbs : Int)) ↔ (0 ≤ k + t * p ∧ k + t * p ≤ c) := by
  have e : (p.natAbs : Int) = p := by omega
  rw [e]
  have a := (td_spec (t := -t) hk hp).2
  have b := (td_spec (t := t) hc hp).2
  rw [Int.neg_mul] at a
  omega
theorem bnd_neg {k c p t : Int} (hp : p < 0) (hk : 0 ≤ k) (hc : 0 ≤ c - k) : (-((c - k).tdiv (p.natAbs : Int)) ≤ t ∧ t ≤ k.tdiv (p.natAbs : Int)) ↔ (0 ≤ k + t * p ∧ k + t * p ≤ c) := by
  have e : (p.natAbs : Int) = -p := by omega
  rw [e]
  have a := (td_spec (t := -t) hc (show 0 < -p by omega)).2
  have b := (td_spec (t := t) hk (show 0 < -p by omega)).2
  rw [Int.neg_mul, Int.mul_neg] at a
  rw [Int.mul_neg] at b
  omega
def BN1 (q9 q63 q64 S : Int → Int) (l x t : Int) : Prop := 0 ≤ q9 x * q63 l + t * q64 (l * 12 + x) ∧ q9 x * q63 l + t * q64 (l * 12 + x) ≤ spn S x * q63 x * q63 l
/-- turns between a and b bring no door of the set sx, below d, beyond -/
def BND (q9 q63 q64 S : Int → Int) (l sx d a b : Int) : Prop := (-1152921504606846976 ≤ a ∧ a ≤ 0) ∧ (0 ≤ b ∧ b ≤ 1152921504606846976) ∧ ∀ t, -1152921504606846976 ≤ t → t ≤ 1152921504606846976 → ((a ≤ t ∧ t ≤ b) ↔ ∀ x, 0 ≤ x → x < d → zbit sx x = 1 → 0 < spn S x → q64 (l * 12 + x) ≠ 0 → BN1 q9 q63 q64 S l x t)
theorem BND.skip {q9 q63 q64 S : Int → Int} {l sx d a b : Int} (h : BND q9 q63 q64 S l sx d a b) (hn : zbit sx d = 1 → 0 < spn S d → q64 (l * 12 + d) = 0) : BND q9 q63 q64 S l sx (d + 1) a b := by
  refine ⟨h.1, h.2.1, fun t t0 t1 => (h.2.2 t t0 t1).trans ⟨fun q x x0 x1 x2 x3 x4 => ?_, fun q x x0 x1 => q x x0 (by omega)⟩⟩
  by_cases e : x = d
  · subst e; exact absurd (hn x2 x3) x4
  · exact q x x0 (by omega) x2 x3 x4
theorem BND.put {q9 q63 q64 S : Int → Int} {l sx d a b u w : Int} (h : BND q9 q63 q64 S l sx d a b) (d0 : 0 ≤ d) (h1 : zbit sx d = 1) (h2 : 0 < spn S d) (h3 : q64 (l * 12 + d) ≠ 0) (hu : 0 ≤ u) (hw : 0 ≤ w) (hk : ∀ t, (-w ≤ t ∧ t ≤ u) ↔ BN1 q9 q63 q64 S l d t) : BND q9 q63 q64 S l sx (d + 1) (max a (-w)) (min b u) := by
  have r1 := h.1
  have r2 := h.2.1
  refine ⟨by omega, by omega, fun t t0 t1 => ?_⟩
  have e : (max a (-w) ≤ t ∧ t ≤ min b u) ↔ (a ≤ t ∧ t ≤ b) ∧ (-w ≤ t ∧ t ≤ u) := by omega
  rw [e, h.2.2 t t0 t1, hk t]
  constructor
  · rintro ⟨q, r⟩ x x0 x1 x2 x3 x4
    by_cases e : x = d
    · subst e; exact r
    · exact q x x0 (by omega) x2 x3 x4
  · intro q
    exact ⟨fun x x0 x1 => q x x0 (by omega), q d d0 (by omega) h1 h2 h3⟩
set_option maxHeartbeats 4000000 in
theorem s_J_minJ {μ : Mem} {Q : PV → Mem → Prop} {a b : Int} (ha : -9223372036854775807 ≤ a ∧ a ≤ 9223372036854775807) (hb : -9223372036854775807 ≤ b ∧ b ≤ 9223372036854775807) (hQ : Q (vL (min a b)) μ) : Rj YD y_Jmath_min_JJ 0 [vL a, vU, vL b] [] μ Q := by
  refine Rj_lload_n (q := 1) d_Jmath_min_JJ_0 rfl rfl rfl ?_
  refine Rj_lload_n (q := 2) d_Jmath_min_JJ_1 rfl rfl rfl ?_
  refine Rj_lc_gt (q := 3) (q2 := 6) (t := 10) d_Jmath_min_JJ_2 rfl d_Jmath_min_JJ_3 rfl (by decide) ⟨by omega, by omega⟩ ⟨by omega, by omega⟩ (fun c2 => ?_) (fun c2 => ?_)
  · refine Rj_lload_n (q := 11) d_Jmath_min_JJ_10 rfl rfl rfl ?_
    refine Rj_lret d_Jmath_min_JJ_11 rfl ?_
    exact fin_L hQ (by omega)
  · refine Rj_lload_n (q := 7) d_Jmath_min_JJ_6 rfl rfl rfl ?_
    refine Rj_goto (t := 11) d_Jmath_min_JJ_7 (by decide) ?_
    refine Rj_lret d_Jmath_min_JJ_11 rfl ?_
    exact fin_L hQ (by omega)
set_option maxHeartbeats 4000000 in
theorem s_J_maxJ {μ : Mem} {Q : PV → Mem → Prop} {a b : Int} (ha : -9223372036854775807 ≤ a ∧ a ≤ 9223372036854775807) (hb : -9223372036854775807 ≤ b ∧ b ≤ 9223372036854775807) (hQ : Q (vL (max a b)) μ) : Rj YD y_Jmath_max 0 [vL a, vU, vL b] [] μ Q := by
  refine Rj_lload_n (q := 1) d_Jmath_max_0 rfl rfl rfl ?_
  refine Rj_lload_n (q := 2) d_Jmath_max_1 rfl rfl rfl ?_
  refine Rj_lc_lt (q := 3) (q2 := 6) (t := 10) d_Jmath_max_2 rfl d_Jmath_max_3 rfl (by decide) ⟨by omega, by omega⟩ ⟨by omega, by omega⟩ (fun c2 => ?_) (fun c2 => ?_)
  · refine Rj_lload_n (q := 11) d_Jmath_max_10 rfl rfl rfl ?_
    refine Rj_lret d_Jmath_max_11 rfl ?_
    exact fin_L hQ (by omega)
  · refine Rj_lload_n (q := 7) d_Jmath_max_6 rfl rfl rfl ?_
    refine Rj_goto (t := 11) d_Jmath_max_7 (by decide) ?_
    refine Rj_lret d_Jmath_max_11 rfl ?_
    exact fin_L hQ (by omega)
theorem GX.stb {μ : Mem} {S lo up dn lk pl : Int → Int} (h : GX μ S lo up dn lk pl) {p d : Int} (p1 : 0 ≤ p ∧ p < S 0) (d1 : 0 ≤ d ∧ d < S 0) : -216000 ≤ μ 64 (p * 12 + d) ∧ μ 64 (p * 12 + d) ≤ 216000 := by
  by_cases e : lo p = lo d ∧ lk d = 0
  · have hk : lk p = 0 := by rw [lk_alike h.2.2.1 p1 d1 e.1]; exact e.2
    exact (h.st p1 d1 e.1.symm hk).2.1
  · have q := h.2.2.2.1.2.2.2.2 p d p1.1 p1.2 d1.1 d1.2
    rw [if_neg e] at q
    omega
set_option maxHeartbeats 4000000 in
theorem s_bound_16 : ∀ (f : Nat) {μ : Mem} {Q : PV → Mem → Prop} {S lo up dn lk pl : Int → Int} {l sx d a b : Int}, ((S 0 - d).toNat < f) → (GX μ S lo up dn lk pl) → (SB S pl) → (0 ≤ l ∧ l < S 0) → (μ 74 9 = l) → (0 ≤ sx ∧ sx < 4096) → (0 ≤ d ∧ d ≤ S 0) → (μ 74 14 = a) → (μ 74 15 = b) → (BND (μ 9) (μ 63) (μ 64) S l sx d a b) → (∀ μ' a' b', Fr (fun c i => c = 74 ∧ (i = 14 ∨ i = 15)) μ μ' → μ' 74 14 = a' → μ' 74 15 = b' → BND (μ 9) (μ 63) (μ 64) S l sx (S 0) a' b' → Q vU μ') → Rj YD y_Pl_bound 16 [vA 74, vI sx, vI d] [] μ Q := by
  intro f
  induction f with
  | zero => intro μ Q S lo up dn lk pl l sx d a b hfu h hsb hl hf hsx hd h14 h15 hB hQ; exact absurd hf (by omega)
  | succ f ih =>
    intro μ Q S lo up dn lk pl l sx d a b hfu h hsb hl hf hsx hd h14 h15 hB hQ
    obtain ⟨z0, z1, z2, z3, z4, z5, z6, z7⟩ := h.z
    obtain ⟨dtl, dspl, trl, srl, brl, bpl, scl, lrl, lql, mrl, prl, krl, zkl⟩ := h.d hl
    have zb := zbit_01 sx d
    refine Rj_iload_n (q := 17) d_Pl_bound_16 rfl rfl rfl ?_
    refine Rj_aload_n (q := 18) d_Pl_bound_17 rfl rfl rfl ?_
    refine Rj_gr (q := 21) (zd := 3) gD_Pl_25_74 rfl rfl d_Pl_bound_18 rfl ?_
    refine Rj_gi (q := 24) (ki := 0) (v := S 0) gD_Pl_37_3 rfl rfl z2 d_Pl_bound_21 rfl ?_
    refine Rj_icmp_ge (q := 27) (t := 204) d_Pl_bound_24 rfl (by decide) ⟨by omega, by omega⟩ ⟨by omega, by omega⟩ (fun c24 => ?_) (fun c24 => ?_)
    · refine Rj_vret d_Pl_bound_204 rfl ?_
      have ed : d = S 0 := by omega
      rw [ed] at hB
      exact hQ μ a b (Fr.refl _ _) h14 h15 hB
    · have dlt : d < S 0 := by omega
      obtain ⟨dt, dsp, tr, sr, br, bp, sc, lr, lq, mr, pr, kr, zk⟩ := h.d (d := d) ⟨hd.1, dlt⟩
      have ste := h.stb hl ⟨hd.1, dlt⟩
      refine Rj_aload_n (q := 28) d_Pl_bound_27 rfl rfl rfl ?_
      refine Rj_gr (q := 31) (zd := 59) gD_Pl_29_74 rfl rfl d_Pl_bound_28 rfl ?_
      refine Rj_aload_n (q := 32) d_Pl_bound_31 rfl rfl rfl ?_
      refine Rj_gi (q := 35) (ki := 9) (v := l) gD_Pl_67_74 rfl rfl hf d_Pl_bound_32 rfl ?_
      refine Rj_iload_n (q := 36) d_Pl_bound_35 rfl rfl rfl ?_
      refine Rj_vo (q := 39) (z := y_Ge_stepOf) (as := [vI l, vI d]) (rest := []) (la := [vA 59, vI l, vI d]) oD_59_Ge_stepOf ml_Pl_101 mw_Ge_stepOf mv_Ge_stepOf rfl d_Pl_bound_36 rfl rfl rfl rfl rfl ?_
      refine Rj_aload_n (q := 1) d_Ge_stepOf_0 rfl rfl rfl ?_
      refine Rj_gr (q := 4) (zd := 64) gD_Ge_25_59 rfl rfl d_Ge_stepOf_1 rfl ?_
      refine Rj_iload_n (q := 5) d_Ge_stepOf_4 rfl rfl rfl ?_
      refine Rj_bipush (q := 7) d_Ge_stepOf_5 rfl (by decide +kernel) ?_
      refine Rj_imul (q := 8) d_Ge_stepOf_7 rfl ?_
      refine Rj_iload_n (q := 9) d_Ge_stepOf_8 rfl rfl rfl ?_
      refine Rj_iadd (q := 10) d_Ge_stepOf_9 rfl ?_
      refine Rj_la (q := 11) (v := μ 64 ((l * 12) + d)) aD_64 rfl (by omega) rfl d_Ge_stepOf_10 rfl ?_
      refine Rj_lret d_Ge_stepOf_11 rfl ?_
      refine Rj_lstore_n (q := 40) (ls' := [vA 74, vI sx, vI d, vL (μ 64 ((l * 12) + d)), vU]) d_Pl_bound_39 rfl rfl (by decide) rfl ?_
      refine Rj_iload_n (q := 41) d_Pl_bound_40 rfl rfl rfl ?_
      refine Rj_iload_n (q := 42) d_Pl_bound_41 rfl rfl rfl ?_
      refine Rj_cs (q := 45) (z := y_D_bitOf) (as := [vI sx, vI d]) (rest := []) (la := [vI sx, vI d]) ml_Pl_84 mw_D_bitOf ms_D_bitOf d_Pl_bound_42 rfl rfl rfl rfl rfl ?_
      refine s_D_bitOf (by omega) (by omega) ?_
      refine Rj_iconst (q := 46) d_Pl_bound_45 rfl ?_
      refine Rj_icmp_ne (q := 49) (t := 198) d_Pl_bound_46 rfl (by decide) ⟨by omega, by omega⟩ (by decide) (fun c46 => ?_) (fun c46 => ?_)
      · refine Rj_iinc (q := 201) (ls' := [vA 74, vI sx, vI (d + 1), vL (μ 64 ((l * 12) + d)), vU]) d_Pl_bound_198 rfl rfl (by decide) rfl ?_
        refine Rj_goto (t := 16) d_Pl_bound_201 (by decide) ?_
        refine Rj_pre (ls' := [vA 74, vI sx, vI (d + 1)]) (t := [vL (μ 64 ((l * 12) + d)), vU]) rfl ?_
        refine ih (by omega) h hsb hl hf hsx (by omega) h14 h15 (hB.skip (fun r1 r2 => ?_)) hQ
        first
          | exact absurd r1 c46
          | (exfalso; omega)
          | exact c63
      · refine Rj_aload_n (q := 50) d_Pl_bound_49 rfl rfl rfl ?_
        refine Rj_gr (q := 53) (zd := 3) gD_Pl_25_74 rfl rfl d_Pl_bound_50 rfl ?_
        refine Rj_gr (q := 56) (zd := 5) gD_Pl_122_3 rfl rfl d_Pl_bound_53 rfl ?_
        refine Rj_iload_n (q := 57) d_Pl_bound_56 rfl rfl rfl ?_
        refine Rj_ia (q := 58) (v := spn S d) aD_5 rfl (by omega) dsp d_Pl_bound_57 rfl ?_
        refine Rj_if_le (q := 61) (t := 198) d_Pl_bound_58 rfl (by decide) ⟨by omega, by omega⟩ (fun c58 => ?_) (fun c58 => ?_)
        · refine Rj_iinc (q := 201) (ls' := [vA 74, vI sx, vI (d + 1), vL (μ 64 ((l * 12) + d)), vU]) d_Pl_bound_198 rfl rfl (by decide) rfl ?_
          refine Rj_goto (t := 16) d_Pl_bound_201 (by decide) ?_
          refine Rj_pre (ls' := [vA 74, vI sx, vI (d + 1)]) (t := [vL (μ 64 ((l * 12) + d)), vU]) rfl ?_
          refine ih (by omega) h hsb hl hf hsx (by omega) h14 h15 (hB.skip (fun r1 r2 => ?_)) hQ
          first
            | exact absurd r1 c46
            | (exfalso; omega)
            | exact c63
        · refine Rj_lload_n (q := 62) d_Pl_bound_61 rfl rfl rfl ?_
          refine Rj_lconst (q := 63) (z := 0) d_Pl_bound_62 rfl rfl ?_
          refine Rj_lc_eq (q := 64) (q2 := 67) (t := 198) d_Pl_bound_63 rfl d_Pl_bound_64 rfl (by decide) ⟨by omega, by omega⟩ (by decide) (fun c63 => ?_) (fun c63 => ?_)
          · refine Rj_iinc (q := 201) (ls' := [vA 74, vI sx, vI (d + 1), vL (μ 64 ((l * 12) + d)), vU]) d_Pl_bound_198 rfl rfl (by decide) rfl ?_
            refine Rj_goto (t := 16) d_Pl_bound_201 (by decide) ?_
            refine Rj_pre (ls' := [vA 74, vI sx, vI (d + 1)]) (t := [vL (μ 64 ((l * 12) + d)), vU]) rfl ?_
            refine ih (by omega) h hsb hl hf hsx (by omega) h14 h15 (hB.skip (fun r1 r2 => ?_)) hQ
            first
              | exact absurd r1 c46
              | (exfalso; omega)
              | exact c63
          · have sbd := hsb d hd.1 dlt (by omega)
            have s0 : ¬ μ 9 d < 0 := fun q => by have := (sc_neg (by omega) br.1 sc).mp q; omega
            have s1 : ¬ spn S d * μ 63 d < μ 9 d := fun q => by have := (sc_gt (k := spn S d) (by omega) br.1 sc).mp q; omega
            have pz : 0 < (((μ 64 (l * 12 + d)).natAbs : Nat) : Int) := by omega
            have k0 : 0 ≤ μ 9 d * μ 63 l := Int.mul_nonneg (by omega) (by omega)
            have k1 : μ 9 d * μ 63 l ≤ spn S d * μ 63 d * μ 63 l := Int.mul_le_mul_of_nonneg_right (by omega) (by omega)
            have k2 := mul_bd (show -60 ≤ spn S d ∧ spn S d ≤ 60 by omega) (show -216000 ≤ μ 63 d ∧ μ 63 d ≤ 216000 by omega)
            have k3 := mul_bd k2 (show -216000 ≤ μ 63 l ∧ μ 63 l ≤ 216000 by omega)
            have ta := (td_spec (t := 0) (show 0 ≤ spn S d * μ 63 d * μ 63 l - μ 9 d * μ 63 l by omega) pz).1
            have tb := (td_spec (t := 0) k0 pz).1
            have hb1 := hB.1
            have hb2 := hB.2.1
            refine Rj_aload_n (q := 68) d_Pl_bound_67 rfl rfl rfl ?_
            refine Rj_gr (q := 71) (zd := 3) gD_Pl_25_74 rfl rfl d_Pl_bound_68 rfl ?_
            refine Rj_gr (q := 74) (zd := 9) gD_Pl_125_3 rfl rfl d_Pl_bound_71 rfl ?_
            refine Rj_iload_n (q := 75) d_Pl_bound_74 rfl rfl rfl ?_
            refine Rj_la (q := 76) (v := μ 9 d) aD_9 rfl (by omega) rfl d_Pl_bound_75 rfl ?_
            refine Rj_aload_n (q := 77) d_Pl_bound_76 rfl rfl rfl ?_
            refine Rj_gr (q := 80) (zd := 59) gD_Pl_29_74 rfl rfl d_Pl_bound_77 rfl ?_
            refine Rj_gr (q := 83) (zd := 63) gD_Pl_128_59 rfl rfl d_Pl_bound_80 rfl ?_
            refine Rj_aload_n (q := 84) d_Pl_bound_83 rfl rfl rfl ?_
            refine Rj_gi (q := 87) (ki := 9) (v := l) gD_Pl_67_74 rfl rfl hf d_Pl_bound_84 rfl ?_
            refine Rj_la (q := 88) (v := μ 63 l) aD_63 rfl (by omega) rfl d_Pl_bound_87 rfl ?_
            refine Rj_lmul (q := 89) d_Pl_bound_88 rfl ?_
            refine Rj_lstore (q := 91) (ls' := [vA 74, vI sx, vI d, vL (μ 64 ((l * 12) + d)), vU, vL ((μ 9 d) * (μ 63 l)), vU]) d_Pl_bound_89 rfl (by decide) rfl ?_
            refine Rj_aload_n (q := 92) d_Pl_bound_91 rfl rfl rfl ?_
            refine Rj_gr (q := 95) (zd := 3) gD_Pl_25_74 rfl rfl d_Pl_bound_92 rfl ?_
            refine Rj_gr (q := 98) (zd := 5) gD_Pl_122_3 rfl rfl d_Pl_bound_95 rfl ?_
            refine Rj_iload_n (q := 99) d_Pl_bound_98 rfl rfl rfl ?_
            refine Rj_ia (q := 100) (v := spn S d) aD_5 rfl (by omega) dsp d_Pl_bound_99 rfl ?_
            refine Rj_i2l (q := 101) d_Pl_bound_100 rfl ⟨by omega, by omega⟩ ?_
            refine Rj_aload_n (q := 102) d_Pl_bound_101 rfl rfl rfl ?_
            refine Rj_gr (q := 105) (zd := 59) gD_Pl_29_74 rfl rfl d_Pl_bound_102 rfl ?_
            refine Rj_gr (q := 108) (zd := 63) gD_Pl_128_59 rfl rfl d_Pl_bound_105 rfl ?_
            refine Rj_iload_n (q := 109) d_Pl_bound_108 rfl rfl rfl ?_
            refine Rj_la (q := 110) (v := μ 63 d) aD_63 rfl (by omega) rfl d_Pl_bound_109 rfl ?_
            refine Rj_lmul (q := 111) d_Pl_bound_110 rfl ?_
            refine Rj_aload_n (q := 112) d_Pl_bound_111 rfl rfl rfl ?_
            refine Rj_gr (q := 115) (zd := 59) gD_Pl_29_74 rfl rfl d_Pl_bound_112 rfl ?_
            refine Rj_gr (q := 118) (zd := 63) gD_Pl_128_59 rfl rfl d_Pl_bound_115 rfl ?_
            refine Rj_aload_n (q := 119) d_Pl_bound_118 rfl rfl rfl ?_
            refine Rj_gi (q := 122) (ki := 9) (v := l) gD_Pl_67_74 rfl rfl hf d_Pl_bound_119 rfl ?_
            refine Rj_la (q := 123) (v := μ 63 l) aD_63 rfl (by omega) rfl d_Pl_bound_122 rfl ?_
            refine Rj_lmul (q := 124) d_Pl_bound_123 rfl ?_
            refine Rj_lload (q := 126) d_Pl_bound_124 rfl rfl ?_
            refine Rj_lsub (q := 127) d_Pl_bound_126 rfl ?_
            refine Rj_lstore (q := 129) (ls' := [vA 74, vI sx, vI d, vL (μ 64 ((l * 12) + d)), vU, vL ((μ 9 d) * (μ 63 l)), vU, vL ((((spn S d) * (μ 63 d)) * (μ 63 l)) - ((μ 9 d) * (μ 63 l))), vU]) d_Pl_bound_127 rfl (by decide) rfl ?_
            refine Rj_lload_n (q := 130) d_Pl_bound_129 rfl rfl rfl ?_
            refine Rj_cs (q := 133) (z := y_Jmath_abs) (as := [vL (μ 64 ((l * 12) + d))]) (rest := []) (la := [vL (μ 64 ((l * 12) + d)), vU]) ml_Pl_105 mw_Jmath_abs ms_Jmath_abs d_Pl_bound_130 rfl rfl rfl rfl rfl ?_
            refine s_J_abs (by omega) ?_
            refine Rj_lstore (q := 135) (ls' := [vA 74, vI sx, vI d, vL (μ 64 ((l * 12) + d)), vU, vL ((μ 9 d) * (μ 63 l)), vU, vL ((((spn S d) * (μ 63 d)) * (μ 63 l)) - ((μ 9 d) * (μ 63 l))), vU, vL (((μ 64 ((l * 12) + d)).natAbs : Int)), vU]) d_Pl_bound_133 rfl (by decide) rfl ?_
            refine Rj_lload_n (q := 136) d_Pl_bound_135 rfl rfl rfl ?_
            refine Rj_lconst (q := 137) (z := 0) d_Pl_bound_136 rfl rfl ?_
            refine Rj_lc_le (q := 138) (q2 := 141) (t := 146) d_Pl_bound_137 rfl d_Pl_bound_138 rfl (by decide) ⟨by omega, by omega⟩ (by decide) (fun c137 => ?_) (fun c137 => ?_)
            · refine Rj_lload (q := 148) d_Pl_bound_146 rfl rfl ?_
              refine Rj_lload (q := 150) d_Pl_bound_148 rfl rfl ?_
              refine Rj_ldiv (q := 151) d_Pl_bound_150 rfl ⟨by omega, by omega⟩ ⟨by omega, by omega⟩ (by omega) ?_
              refine Rj_lstore (q := 153) (ls' := [vA 74, vI sx, vI d, vL (μ 64 ((l * 12) + d)), vU, vL ((μ 9 d) * (μ 63 l)), vU, vL ((((spn S d) * (μ 63 d)) * (μ 63 l)) - ((μ 9 d) * (μ 63 l))), vU, vL (((μ 64 ((l * 12) + d)).natAbs : Int)), vU, vL (((μ 9 d) * (μ 63 l)).tdiv ((μ 64 ((l * 12) + d)).natAbs : Int)), vU]) d_Pl_bound_151 rfl (by decide) rfl ?_
              refine Rj_lload_n (q := 154) d_Pl_bound_153 rfl rfl rfl ?_
              refine Rj_lconst (q := 155) (z := 0) d_Pl_bound_154 rfl rfl ?_
              refine Rj_lc_le (q := 156) (q2 := 159) (t := 164) d_Pl_bound_155 rfl d_Pl_bound_156 rfl (by decide) ⟨by omega, by omega⟩ (by decide) (fun c155 => ?_) (fun c155 => ?_)
              · refine Rj_lload (q := 166) d_Pl_bound_164 rfl rfl ?_
                refine Rj_lload (q := 168) d_Pl_bound_166 rfl rfl ?_
                refine Rj_ldiv (q := 169) d_Pl_bound_168 rfl ⟨by omega, by omega⟩ ⟨by omega, by omega⟩ (by omega) ?_
                refine Rj_lstore (q := 171) (ls' := [vA 74, vI sx, vI d, vL (μ 64 ((l * 12) + d)), vU, vL ((μ 9 d) * (μ 63 l)), vU, vL ((((spn S d) * (μ 63 d)) * (μ 63 l)) - ((μ 9 d) * (μ 63 l))), vU, vL (((μ 64 ((l * 12) + d)).natAbs : Int)), vU, vL (((μ 9 d) * (μ 63 l)).tdiv ((μ 64 ((l * 12) + d)).natAbs : Int)), vU, vL (((((spn S d) * (μ 63 d)) * (μ 63 l)) - ((μ 9 d) * (μ 63 l))).tdiv ((μ 64 ((l * 12) + d)).natAbs : Int)), vU]) d_Pl_bound_169 rfl (by decide) rfl ?_
                refine Rj_aload_n (q := 172) d_Pl_bound_171 rfl rfl rfl ?_
                refine Rj_aload_n (q := 173) d_Pl_bound_172 rfl rfl rfl ?_
                refine Rj_gl (q := 176) (ki := 15) (v := b) gD_Pl_119_74 rfl rfl h15 d_Pl_bound_173 rfl ?_
                refine Rj_lload (q := 178) d_Pl_bound_176 rfl rfl ?_
                refine Rj_cs (q := 181) (z := y_Jmath_min_JJ) (as := [vL b, vL (((μ 9 d) * (μ 63 l)).tdiv ((μ 64 ((l * 12) + d)).natAbs : Int))]) (rest := [vA 74]) (la := [vL b, vU, vL (((μ 9 d) * (μ 63 l)).tdiv ((μ 64 ((l * 12) + d)).natAbs : Int)), vU]) ml_Pl_131 mw_Jmath_min_JJ ms_Jmath_min_JJ d_Pl_bound_178 rfl rfl rfl rfl rfl ?_
                refine s_J_minJ (by omega) (by omega) ?_
                refine Rj_pl (q := 184) (ki := 15) pD_Pl_119_74 rfl rfl d_Pl_bound_181 rfl ?_
                refine Rj_aload_n (q := 185) d_Pl_bound_184 rfl rfl rfl ?_
                refine Rj_aload_n (q := 186) d_Pl_bound_185 rfl rfl rfl ?_
                refine Rj_gl (q := 189) (ki := 14) (v := a) gD_Pl_113_74 rfl rfl h14 d_Pl_bound_186 rfl ?_
                refine Rj_lload (q := 191) d_Pl_bound_189 rfl rfl ?_
                refine Rj_lneg (q := 192) d_Pl_bound_191 rfl ?_
                refine Rj_cs (q := 195) (z := y_Jmath_max) (as := [vL a, vL (-(((((spn S d) * (μ 63 d)) * (μ 63 l)) - ((μ 9 d) * (μ 63 l))).tdiv ((μ 64 ((l * 12) + d)).natAbs : Int)))]) (rest := [vA 74]) (la := [vL a, vU, vL (-(((((spn S d) * (μ 63 d)) * (μ 63 l)) - ((μ 9 d) * (μ 63 l))).tdiv ((μ 64 ((l * 12) + d)).natAbs : Int))), vU]) ml_Pl_135 mw_Jmath_max ms_Jmath_max d_Pl_bound_192 rfl rfl rfl rfl rfl ?_
                refine s_J_maxJ (by omega) (by omega) ?_
                refine Rj_pl (q := 198) (ki := 14) pD_Pl_113_74 rfl rfl d_Pl_bound_195 rfl ?_
                refine Rj_iinc (q := 201) (ls' := [vA 74, vI sx, vI (d + 1), vL (μ 64 ((l * 12) + d)), vU, vL ((μ 9 d) * (μ 63 l)), vU, vL ((((spn S d) * (μ 63 d)) * (μ 63 l)) - ((μ 9 d) * (μ 63 l))), vU, vL (((μ 64 ((l * 12) + d)).natAbs : Int)), vU, vL (((μ 9 d) * (μ 63 l)).tdiv ((μ 64 ((l * 12) + d)).natAbs : Int)), vU, vL (((((spn S d) * (μ 63 d)) * (μ 63 l)) - ((μ 9 d) * (μ 63 l))).tdiv ((μ 64 ((l * 12) + d)).natAbs : Int)), vU]) d_Pl_bound_198 rfl rfl (by decide) rfl ?_
                refine Rj_goto (t := 16) d_Pl_bound_201 (by decide) ?_
                refine Rj_pre (ls' := [vA 74, vI sx, vI (d + 1)]) (t := [vL (μ 64 ((l * 12) + d)), vU, vL ((μ 9 d) * (μ 63 l)), vU, vL ((((spn S d) * (μ 63 d)) * (μ 63 l)) - ((μ 9 d) * (μ 63 l))), vU, vL (((μ 64 ((l * 12) + d)).natAbs : Int)), vU, vL (((μ 9 d) * (μ 63 l)).tdiv ((μ 64 ((l * 12) + d)).natAbs : Int)), vU, vL (((((spn S d) * (μ 63 d)) * (μ 63 l)) - ((μ 9 d) * (μ 63 l))).tdiv ((μ 64 ((l * 12) + d)).natAbs : Int)), vU]) rfl ?_
                have bk := hB.put (u := (((μ 9 d) * (μ 63 l)).tdiv ((μ 64 ((l * 12) + d)).natAbs : Int))) (w := (((((spn S d) * (μ 63 d)) * (μ 63 l)) - ((μ 9 d) * (μ 63 l))).tdiv ((μ 64 ((l * 12) + d)).natAbs : Int))) hd.1 c46 (by omega) c63 (by omega) (by omega) (fun t => bnd_neg (by omega) k0 (by omega))
                exact ih (μ := (mset (mset μ 74 15 (min b (((μ 9 d) * (μ 63 l)).tdiv ((μ 64 ((l * 12) + d)).natAbs : Int)))) 74 14 (max a (-(((((spn S d) * (μ 63 d)) * (μ 63 l)) - ((μ 9 d) * (μ 63 l))).tdiv ((μ 64 ((l * 12) + d)).natAbs : Int)))))) (by omega) (h.keep (fun c i q => (mset_o (by unfold gxc at q; omega)).trans (mset_o (by unfold gxc at q; omega)))) hsb hl hf hsx (by omega) (mset_same _ _ _ _) rfl bk (fun m a' b' f1 k1 k2 k3 => hQ m a' b' ((Fr.put (Fr.put (Fr.refl _ _) ⟨rfl, Or.inr rfl⟩) ⟨rfl, Or.inl rfl⟩).trans f1) k1 k2 k3)
              · refine Rj_lload (q := 161) d_Pl_bound_159 rfl rfl ?_
                refine Rj_goto (t := 166) d_Pl_bound_161 (by decide) ?_
                refine Rj_lload (q := 168) d_Pl_bound_166 rfl rfl ?_
                refine Rj_ldiv (q := 169) d_Pl_bound_168 rfl ⟨by omega, by omega⟩ ⟨by omega, by omega⟩ (by omega) ?_
                refine Rj_lstore (q := 171) (ls' := [vA 74, vI sx, vI d, vL (μ 64 ((l * 12) + d)), vU, vL ((μ 9 d) * (μ 63 l)), vU, vL ((((spn S d) * (μ 63 d)) * (μ 63 l)) - ((μ 9 d) * (μ 63 l))), vU, vL (((μ 64 ((l * 12) + d)).natAbs : Int)), vU, vL (((μ 9 d) * (μ 63 l)).tdiv ((μ 64 ((l * 12) + d)).natAbs : Int)), vU, vL (((μ 9 d) * (μ 63 l)).tdiv ((μ 64 ((l * 12) + d)).natAbs : Int)), vU]) d_Pl_bound_169 rfl (by decide) rfl ?_
                refine Rj_aload_n (q := 172) d_Pl_bound_171 rfl rfl rfl ?_
                refine Rj_aload_n (q := 173) d_Pl_bound_172 rfl rfl rfl ?_
                refine Rj_gl (q := 176) (ki := 15) (v := b) gD_Pl_119_74 rfl rfl h15 d_Pl_bound_173 rfl ?_
                refine Rj_lload (q := 178) d_Pl_bound_176 rfl rfl ?_
                refine Rj_cs (q := 181) (z := y_Jmath_min_JJ) (as := [vL b, vL (((μ 9 d) * (μ 63 l)).tdiv ((μ 64 ((l * 12) + d)).natAbs : Int))]) (rest := [vA 74]) (la := [vL b, vU, vL (((μ 9 d) * (μ 63 l)).tdiv ((μ 64 ((l * 12) + d)).natAbs : Int)), vU]) ml_Pl_131 mw_Jmath_min_JJ ms_Jmath_min_JJ d_Pl_bound_178 rfl rfl rfl rfl rfl ?_
                refine s_J_minJ (by omega) (by omega) ?_
                refine Rj_pl (q := 184) (ki := 15) pD_Pl_119_74 rfl rfl d_Pl_bound_181 rfl ?_
                refine Rj_aload_n (q := 185) d_Pl_bound_184 rfl rfl rfl ?_
                refine Rj_aload_n (q := 186) d_Pl_bound_185 rfl rfl rfl ?_
                refine Rj_gl (q := 189) (ki := 14) (v := a) gD_Pl_113_74 rfl rfl h14 d_Pl_bound_186 rfl ?_
                refine Rj_lload (q := 191) d_Pl_bound_189 rfl rfl ?_
                refine Rj_lneg (q := 192) d_Pl_bound_191 rfl ?_
                refine Rj_cs (q := 195) (z := y_Jmath_max) (as := [vL a, vL (-(((μ 9 d) * (μ 63 l)).tdiv ((μ 64 ((l * 12) + d)).natAbs : Int)))]) (rest := [vA 74]) (la := [vL a, vU, vL (-(((μ 9 d) * (μ 63 l)).tdiv ((μ 64 ((l * 12) + d)).natAbs : Int))), vU]) ml_Pl_135 mw_Jmath_max ms_Jmath_max d_Pl_bound_192 rfl rfl rfl rfl rfl ?_
                refine s_J_maxJ (by omega) (by omega) ?_
                refine Rj_pl (q := 198) (ki := 14) pD_Pl_113_74 rfl rfl d_Pl_bound_195 rfl ?_
                refine Rj_iinc (q := 201) (ls' := [vA 74, vI sx, vI (d + 1), vL (μ 64 ((l * 12) + d)), vU, vL ((μ 9 d) * (μ 63 l)), vU, vL ((((spn S d) * (μ 63 d)) * (μ 63 l)) - ((μ 9 d) * (μ 63 l))), vU, vL (((μ 64 ((l * 12) + d)).natAbs : Int)), vU, vL (((μ 9 d) * (μ 63 l)).tdiv ((μ 64 ((l * 12) + d)).natAbs : Int)), vU, vL (((μ 9 d) * (μ 63 l)).tdiv ((μ 64 ((l * 12) + d)).natAbs : Int)), vU]) d_Pl_bound_198 rfl rfl (by decide) rfl ?_
                refine Rj_goto (t := 16) d_Pl_bound_201 (by decide) ?_
                exfalso
                omega
            · refine Rj_lload (q := 143) d_Pl_bound_141 rfl rfl ?_
              refine Rj_goto (t := 148) d_Pl_bound_143 (by decide) ?_
              refine Rj_lload (q := 150) d_Pl_bound_148 rfl rfl ?_
              refine Rj_ldiv (q := 151) d_Pl_bound_150 rfl ⟨by omega, by omega⟩ ⟨by omega, by omega⟩ (by omega) ?_
              refine Rj_lstore (q := 153) (ls' := [vA 74, vI sx, vI d, vL (μ 64 ((l * 12) + d)), vU, vL ((μ 9 d) * (μ 63 l)), vU, vL ((((spn S d) * (μ 63 d)) * (μ 63 l)) - ((μ 9 d) * (μ 63 l))), vU, vL (((μ 64 ((l * 12) + d)).natAbs : Int)), vU, vL (((((spn S d) * (μ 63 d)) * (μ 63 l)) - ((μ 9 d) * (μ 63 l))).tdiv ((μ 64 ((l * 12) + d)).natAbs : Int)), vU]) d_Pl_bound_151 rfl (by decide) rfl ?_
              refine Rj_lload_n (q := 154) d_Pl_bound_153 rfl rfl rfl ?_
              refine Rj_lconst (q := 155) (z := 0) d_Pl_bound_154 rfl rfl ?_
              refine Rj_lc_le (q := 156) (q2 := 159) (t := 164) d_Pl_bound_155 rfl d_Pl_bound_156 rfl (by decide) ⟨by omega, by omega⟩ (by decide) (fun c155 => ?_) (fun c155 => ?_)
              · refine Rj_lload (q := 166) d_Pl_bound_164 rfl rfl ?_
                refine Rj_lload (q := 168) d_Pl_bound_166 rfl rfl ?_
                refine Rj_ldiv (q := 169) d_Pl_bound_168 rfl ⟨by omega, by omega⟩ ⟨by omega, by omega⟩ (by omega) ?_
                refine Rj_lstore (q := 171) (ls' := [vA 74, vI sx, vI d, vL (μ 64 ((l * 12) + d)), vU, vL ((μ 9 d) * (μ 63 l)), vU, vL ((((spn S d) * (μ 63 d)) * (μ 63 l)) - ((μ 9 d) * (μ 63 l))), vU, vL (((μ 64 ((l * 12) + d)).natAbs : Int)), vU, vL (((((spn S d) * (μ 63 d)) * (μ 63 l)) - ((μ 9 d) * (μ 63 l))).tdiv ((μ 64 ((l * 12) + d)).natAbs : Int)), vU, vL (((((spn S d) * (μ 63 d)) * (μ 63 l)) - ((μ 9 d) * (μ 63 l))).tdiv ((μ 64 ((l * 12) + d)).natAbs : Int)), vU]) d_Pl_bound_169 rfl (by decide) rfl ?_
                refine Rj_aload_n (q := 172) d_Pl_bound_171 rfl rfl rfl ?_
                refine Rj_aload_n (q := 173) d_Pl_bound_172 rfl rfl rfl ?_
                refine Rj_gl (q := 176) (ki := 15) (v := b) gD_Pl_119_74 rfl rfl h15 d_Pl_bound_173 rfl ?_
                refine Rj_lload (q := 178) d_Pl_bound_176 rfl rfl ?_
                refine Rj_cs (q := 181) (z := y_Jmath_min_JJ) (as := [vL b, vL (((((spn S d) * (μ 63 d)) * (μ 63 l)) - ((μ 9 d) * (μ 63 l))).tdiv ((μ 64 ((l * 12) + d)).natAbs : Int))]) (rest := [vA 74]) (la := [vL b, vU, vL (((((spn S d) * (μ 63 d)) * (μ 63 l)) - ((μ 9 d) * (μ 63 l))).tdiv ((μ 64 ((l * 12) + d)).natAbs : Int)), vU]) ml_Pl_131 mw_Jmath_min_JJ ms_Jmath_min_JJ d_Pl_bound_178 rfl rfl rfl rfl rfl ?_
                refine s_J_minJ (by omega) (by omega) ?_
                refine Rj_pl (q := 184) (ki := 15) pD_Pl_119_74 rfl rfl d_Pl_bound_181 rfl ?_
                refine Rj_aload_n (q := 185) d_Pl_bound_184 rfl rfl rfl ?_
                refine Rj_aload_n (q := 186) d_Pl_bound_185 rfl rfl rfl ?_
                refine Rj_gl (q := 189) (ki := 14) (v := a) gD_Pl_113_74 rfl rfl h14 d_Pl_bound_186 rfl ?_
                refine Rj_lload (q := 191) d_Pl_bound_189 rfl rfl ?_
                refine Rj_lneg (q := 192) d_Pl_bound_191 rfl ?_
                refine Rj_cs (q := 195) (z := y_Jmath_max) (as := [vL a, vL (-(((((spn S d) * (μ 63 d)) * (μ 63 l)) - ((μ 9 d) * (μ 63 l))).tdiv ((μ 64 ((l * 12) + d)).natAbs : Int)))]) (rest := [vA 74]) (la := [vL a, vU, vL (-(((((spn S d) * (μ 63 d)) * (μ 63 l)) - ((μ 9 d) * (μ 63 l))).tdiv ((μ 64 ((l * 12) + d)).natAbs : Int))), vU]) ml_Pl_135 mw_Jmath_max ms_Jmath_max d_Pl_bound_192 rfl rfl rfl rfl rfl ?_
                refine s_J_maxJ (by omega) (by omega) ?_
                refine Rj_pl (q := 198) (ki := 14) pD_Pl_113_74 rfl rfl d_Pl_bound_195 rfl ?_
                refine Rj_iinc (q := 201) (ls' := [vA 74, vI sx, vI (d + 1), vL (μ 64 ((l * 12) + d)), vU, vL ((μ 9 d) * (μ 63 l)), vU, vL ((((spn S d) * (μ 63 d)) * (μ 63 l)) - ((μ 9 d) * (μ 63 l))), vU, vL (((μ 64 ((l * 12) + d)).natAbs : Int)), vU, vL (((((spn S d) * (μ 63 d)) * (μ 63 l)) - ((μ 9 d) * (μ 63 l))).tdiv ((μ 64 ((l * 12) + d)).natAbs : Int)), vU, vL (((((spn S d) * (μ 63 d)) * (μ 63 l)) - ((μ 9 d) * (μ 63 l))).tdiv ((μ 64 ((l * 12) + d)).natAbs : Int)), vU]) d_Pl_bound_198 rfl rfl (by decide) rfl ?_
                refine Rj_goto (t := 16) d_Pl_bound_201 (by decide) ?_
                exfalso
                omega
              · refine Rj_lload (q := 161) d_Pl_bound_159 rfl rfl ?_
                refine Rj_goto (t := 166) d_Pl_bound_161 (by decide) ?_
                refine Rj_lload (q := 168) d_Pl_bound_166 rfl rfl ?_
                refine Rj_ldiv (q := 169) d_Pl_bound_168 rfl ⟨by omega, by omega⟩ ⟨by omega, by omega⟩ (by omega) ?_
                refine Rj_lstore (q := 171) (ls' := [vA 74, vI sx, vI d, vL (μ 64 ((l * 12) + d)), vU, vL ((μ 9 d) * (μ 63 l)), vU, vL ((((spn S d) * (μ 63 d)) * (μ 63 l)) - ((μ 9 d) * (μ 63 l))), vU, vL (((μ 64 ((l * 12) + d)).natAbs : Int)), vU, vL (((((spn S d) * (μ 63 d)) * (μ 63 l)) - ((μ 9 d) * (μ 63 l))).tdiv ((μ 64 ((l * 12) + d)).natAbs : Int)), vU, vL (((μ 9 d) * (μ 63 l)).tdiv ((μ 64 ((l * 12) + d)).natAbs : Int)), vU]) d_Pl_bound_169 rfl (by decide) rfl ?_
                refine Rj_aload_n (q := 172) d_Pl_bound_171 rfl rfl rfl ?_
                refine Rj_aload_n (q := 173) d_Pl_bound_172 rfl rfl rfl ?_
                refine Rj_gl (q := 176) (ki := 15) (v := b) gD_Pl_119_74 rfl rfl h15 d_Pl_bound_173 rfl ?_
                refine Rj_lload (q := 178) d_Pl_bound_176 rfl rfl ?_
                refine Rj_cs (q := 181) (z := y_Jmath_min_JJ) (as := [vL b, vL (((((spn S d) * (μ 63 d)) * (μ 63 l)) - ((μ 9 d) * (μ 63 l))).tdiv ((μ 64 ((l * 12) + d)).natAbs : Int))]) (rest := [vA 74]) (la := [vL b, vU, vL (((((spn S d) * (μ 63 d)) * (μ 63 l)) - ((μ 9 d) * (μ 63 l))).tdiv ((μ 64 ((l * 12) + d)).natAbs : Int)), vU]) ml_Pl_131 mw_Jmath_min_JJ ms_Jmath_min_JJ d_Pl_bound_178 rfl rfl rfl rfl rfl ?_
                refine s_J_minJ (by omega) (by omega) ?_
                refine Rj_pl (q := 184) (ki := 15) pD_Pl_119_74 rfl rfl d_Pl_bound_181 rfl ?_
                refine Rj_aload_n (q := 185) d_Pl_bound_184 rfl rfl rfl ?_
                refine Rj_aload_n (q := 186) d_Pl_bound_185 rfl rfl rfl ?_
                refine Rj_gl (q := 189) (ki := 14) (v := a) gD_Pl_113_74 rfl rfl h14 d_Pl_bound_186 rfl ?_
                refine Rj_lload (q := 191) d_Pl_bound_189 rfl rfl ?_
                refine Rj_lneg (q := 192) d_Pl_bound_191 rfl ?_
                refine Rj_cs (q := 195) (z := y_Jmath_max) (as := [vL a, vL (-(((μ 9 d) * (μ 63 l)).tdiv ((μ 64 ((l * 12) + d)).natAbs : Int)))]) (rest := [vA 74]) (la := [vL a, vU, vL (-(((μ 9 d) * (μ 63 l)).tdiv ((μ 64 ((l * 12) + d)).natAbs : Int))), vU]) ml_Pl_135 mw_Jmath_max ms_Jmath_max d_Pl_bound_192 rfl rfl rfl rfl rfl ?_
                refine s_J_maxJ (by omega) (by omega) ?_
                refine Rj_pl (q := 198) (ki := 14) pD_Pl_113_74 rfl rfl d_Pl_bound_195 rfl ?_
                refine Rj_iinc (q := 201) (ls' := [vA 74, vI sx, vI (d + 1), vL (μ 64 ((l * 12) + d)), vU, vL ((μ 9 d) * (μ 63 l)), vU, vL ((((spn S d) * (μ 63 d)) * (μ 63 l)) - ((μ 9 d) * (μ 63 l))), vU, vL (((μ 64 ((l * 12) + d)).natAbs : Int)), vU, vL (((((spn S d) * (μ 63 d)) * (μ 63 l)) - ((μ 9 d) * (μ 63 l))).tdiv ((μ 64 ((l * 12) + d)).natAbs : Int)), vU, vL (((μ 9 d) * (μ 63 l)).tdiv ((μ 64 ((l * 12) + d)).natAbs : Int)), vU]) d_Pl_bound_198 rfl rfl (by decide) rfl ?_
                refine Rj_goto (t := 16) d_Pl_bound_201 (by decide) ?_
                refine Rj_pre (ls' := [vA 74, vI sx, vI (d + 1)]) (t := [vL (μ 64 ((l * 12) + d)), vU, vL ((μ 9 d) * (μ 63 l)), vU, vL ((((spn S d) * (μ 63 d)) * (μ 63 l)) - ((μ 9 d) * (μ 63 l))), vU, vL (((μ 64 ((l * 12) + d)).natAbs : Int)), vU, vL (((((spn S d) * (μ 63 d)) * (μ 63 l)) - ((μ 9 d) * (μ 63 l))).tdiv ((μ 64 ((l * 12) + d)).natAbs : Int)), vU, vL (((μ 9 d) * (μ 63 l)).tdiv ((μ 64 ((l * 12) + d)).natAbs : Int)), vU]) rfl ?_
                have bk := hB.put (u := (((((spn S d) * (μ 63 d)) * (μ 63 l)) - ((μ 9 d) * (μ 63 l))).tdiv ((μ 64 ((l * 12) + d)).natAbs : Int))) (w := (((μ 9 d) * (μ 63 l)).tdiv ((μ 64 ((l * 12) + d)).natAbs : Int))) hd.1 c46 (by omega) c63 (by omega) (by omega) (fun t => bnd_pos (by omega) k0 (by omega))
                exact ih (μ := (mset (mset μ 74 15 (min b (((((spn S d) * (μ 63 d)) * (μ 63 l)) - ((μ 9 d) * (μ 63 l))).tdiv ((μ 64 ((l * 12) + d)).natAbs : Int)))) 74 14 (max a (-(((μ 9 d) * (μ 63 l)).tdiv ((μ 64 ((l * 12) + d)).natAbs : Int)))))) (by omega) (h.keep (fun c i q => (mset_o (by unfold gxc at q; omega)).trans (mset_o (by unfold gxc at q; omega)))) hsb hl hf hsx (by omega) (mset_same _ _ _ _) rfl bk (fun m a' b' f1 k1 k2 k3 => hQ m a' b' ((Fr.put (Fr.put (Fr.refl _ _) ⟨rfl, Or.inr rfl⟩) ⟨rfl, Or.inl rfl⟩).trans f1) k1 k2 k3)
