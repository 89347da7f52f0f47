theorem gD_D_101_0 : GI YD "DoorsOnCogs" 101 0 14 (some (some 88)) := ⟨by decide, _, _, _, fl_D_101, cD_0, by decide, rfl⟩
/-! drawn days: pure; the class draws -/
def nxr (x : Int) : Int := (x * 1103515245 + 12345) % 2147483648
def itr : Nat → Int → Int
  | 0, x => x
  | k + 1, x => nxr (itr k x)
def drw (D0 x j : Int) : Int := (itr (j.toNat + 1) x / 65536) % D0
theorem nxr_rng (x : Int) : 0 ≤ nxr x ∧ nxr x ≤ 2147483647 := by unfold nxr; omega
theorem itr_rng {x : Int} (h : 0 ≤ x ∧ x ≤ 2147483647) : ∀ k, 0 ≤ itr k x ∧ itr k x ≤ 2147483647
  | 0 => h
  | k + 1 => nxr_rng _
theorem drw_rng {D0 x j : Int} (h : 0 < D0) : 0 ≤ drw D0 x j ∧ drw D0 x j < D0 := ⟨Int.emod_nonneg _ (by omega), Int.emod_lt_of_pos _ h⟩
theorem zl_and_31 {a : Int} (h0 : 0 ≤ a) (h1 : a ≤ 9223372036854775807) : zl_and a 2147483647 = a % 2147483648 := by
  obtain ⟨k, rfl⟩ := set_nat h0
  unfold zl_and
  rw [show (2147483647 : Int) = ((2147483648 - 1 : Nat) : Int) from rfl, zN64, zN64, g_mask (s := 31) (p := 2147483648) (by decide) (by decide) (by omega), ← zN64, o64 ⟨by omega, by omega⟩]
  omega
theorem itr_s {x i : Int} (h : 0 ≤ i) : itr (i + 1).toNat x = nxr (itr i.toNat x) := by
  rw [show (i + 1).toNat = i.toNat + 1 by omega]; rfl
/-- days that are drawn: each begins where all began -/
def dws (S lo up dn lk : Int → Int) (D : List CLS) (pl : Int → Int) (N : Int) : Nat → Int → DS → DS
  | 0, _, σ => σ
  | k + 1, x, σ => dws S lo up dn lk D pl N k (itr N.toNat x) (pl, (cms S lo up dn lk D (drw (S 0) x) N 61 0 σ).2)
theorem DSI.back {S : Int → Int} {K kp k : Int} {σ : DS} {pl : Int → Int} (h : DSI S K kp k σ) (hb : ∀ d, 0 ≤ d → d < 12 → -K ≤ pl d ∧ pl d ≤ K) (hs : SB S pl) : DSI S K 0 k (pl, σ.2) := by
  obtain ⟨h1, h2, h3, h4, h5, h6⟩ := h
  refine ⟨h1, h2, h3, h4, fun d d0 d1 => ?_, hs⟩
  have := hb d d0 d1
  show -(K + 0 * 2799360000000) ≤ pl d ∧ pl d ≤ K + 0 * 2799360000000
  omega
def tal (w : Int) (τ : DS) : Int := if w = 0 then τ.2.1 else if w = 1 then τ.2.2.1 else τ.2.2.2.1
section OUT
variable {S lo up dn lk : Int → Int} {D : List CLS} {y : Int} {σ : DS}
theorem cmg_out {d ah : Int} (hS : S 0 ≤ 12) (h : ¬ (0 ≤ y ∧ y < 12)) : (cmg S lo up dn lk D d ah σ).1 y = σ.1 y := by
  have k : ∀ n : Int, (psd S lo up dn lk n d σ).1 y = σ.1 y := by
    intro n
    unfold psd
    split
    · rfl
    · split
      · show trn S lo up dn σ.1 (pts S) d n y = σ.1 y
        unfold trn; rw [if_neg (by omega)]
      · rfl
  unfold cmg pas
  dsimp only
  split
  · rfl
  · exact k _
theorem cms_out {g : Int → Int} {N : Int} (hS : S 0 ≤ 12) (h : ¬ (0 ≤ y ∧ y < 12)) : ∀ (f : Nat) (i : Int) (σ : DS), (cms S lo up dn lk D g N f i σ).1 y = σ.1 y
  | 0, _, _ => rfl
  | f + 1, i, σ => by
    by_cases e : i < N
    · rw [cms_y e, cms_out hS h f (i + 1) _, cmg_out hS h]
    · rw [cms_n e]
end OUT
set_option maxHeartbeats 4000000 in
theorem s_draw_6 : ∀ (f : Nat) {μ : Mem} {Q : PV → Mem → Prop} {x0 N D0 x i : Int}, ((N - i).toNat < f) → (0 ≤ x0 ∧ x0 ≤ 2147483647) → (0 ≤ N ∧ N ≤ 60) → (μ 3 0 = D0 ∧ 0 < D0 ∧ D0 ≤ 12) → (0 ≤ i ∧ i ≤ N) → (x = itr i.toNat x0) → (∀ j, 0 ≤ j → j < i → μ 88 j = drw D0 x0 j) → (∀ μ', Fr (fun c _ => c = 88) μ μ' → (∀ j, 0 ≤ j → j < N → μ' 88 j = drw D0 x0 j) → Q (vL (itr N.toNat x0)) μ') → Rj YD y_D_drawComings 6 [vA 0, vL x0, vU, vI N, vL x, vU, vI i] [] μ Q := by
  intro f
  induction f with
  | zero => intro μ Q x0 N D0 x i hf hx hN hD hi hxi hb hQ; exact absurd hf (by omega)
  | succ f ih =>
    intro μ Q x0 N D0 x i hf hx hN hD hi hxi hb hQ
    have xr := itr_rng hx i.toNat
    rw [← hxi] at xr
    have nr := nxr_rng x
    have d3 := hD.1
    refine Rj_iload (q := 8) d_D_drawComings_6 rfl rfl ?_
    refine Rj_iload_n (q := 9) d_D_drawComings_8 rfl rfl rfl ?_
    refine Rj_icmp_ge (q := 12) (t := 78) d_D_drawComings_9 rfl (by decide) ⟨by omega, by omega⟩ ⟨by omega, by omega⟩ (fun c9 => ?_) (fun c9 => ?_)
    · refine Rj_lload (q := 80) d_D_drawComings_78 rfl rfl ?_
      refine Rj_lret d_D_drawComings_80 rfl ?_
      exact fin_L (hQ μ (Fr.refl _ _) (fun j j0 j1 => hb j j0 (by omega))) (by rw [hxi, show i = N by omega])
    · refine Rj_iload (q := 14) d_D_drawComings_12 rfl rfl ?_
      refine Rj_bipush (q := 16) d_D_drawComings_14 rfl (by decide +kernel) ?_
      refine Rj_icmp_ge (q := 19) (t := 78) d_D_drawComings_16 rfl (by decide) ⟨by omega, by omega⟩ (by decide) (fun c16 => ?_) (fun c16 => ?_)
      · exact absurd c16 (by omega)
      · refine Rj_lload (q := 21) d_D_drawComings_19 rfl rfl ?_
        refine Rj_ldc2 (q := 24) k_D_307 d_D_drawComings_21 rfl ?_
        refine Rj_lmul (q := 25) d_D_drawComings_24 rfl ?_
        refine Rj_ldc2 (q := 28) k_D_309 d_D_drawComings_25 rfl ?_
        refine Rj_ladd (q := 29) d_D_drawComings_28 rfl ?_
        refine Rj_ldc2 (q := 32) k_D_311 d_D_drawComings_29 rfl ?_
        refine Rj_land (q := 33) (z := nxr x) d_D_drawComings_32 rfl (zl_and_31 (by omega) (by omega)) ?_
        refine Rj_lstore (q := 35) (ls' := [vA 0, vL x0, vU, vI N, vL (nxr x), vU, vI i]) d_D_drawComings_33 rfl (by decide) rfl ?_
        refine Rj_aload_n (q := 36) d_D_drawComings_35 rfl rfl rfl ?_
        refine Rj_gr (q := 39) (zd := 88) gD_D_101_0 rfl rfl d_D_drawComings_36 rfl ?_
        refine Rj_iload (q := 41) d_D_drawComings_39 rfl rfl ?_
        refine Rj_aload_n (q := 42) d_D_drawComings_41 rfl rfl rfl ?_
        refine Rj_gr (q := 45) (zd := 3) gD_D_25_0 rfl rfl d_D_drawComings_42 rfl ?_
        refine Rj_gi (q := 48) (ki := 0) (v := D0) gD_D_130_3 rfl rfl d3 d_D_drawComings_45 rfl ?_
        refine Rj_if_le (q := 51) (t := 70) d_D_drawComings_48 rfl (by decide) ⟨by omega, by omega⟩ (fun c48 => ?_) (fun c48 => ?_)
        · exact absurd c48 (by omega)
        · refine Rj_lload (q := 53) d_D_drawComings_51 rfl rfl ?_
          refine Rj_ldc2 (q := 56) k_D_313 d_D_drawComings_53 rfl ?_
          refine Rj_ldiv (q := 57) d_D_drawComings_56 rfl ⟨by omega, by omega⟩ (by decide) (by decide) ?_
          rw [show (nxr x).tdiv 65536 = nxr x / 65536 from Int.tdiv_eq_ediv_of_nonneg nr.1]
          refine Rj_aload_n (q := 58) d_D_drawComings_57 rfl rfl rfl ?_
          refine Rj_gr (q := 61) (zd := 3) gD_D_25_0 rfl rfl d_D_drawComings_58 rfl ?_
          refine Rj_gi (q := 64) (ki := 0) (v := D0) gD_D_130_3 rfl rfl d3 d_D_drawComings_61 rfl ?_
          refine Rj_i2l (q := 65) d_D_drawComings_64 rfl ⟨by omega, by omega⟩ ?_
          refine Rj_lrem (q := 66) d_D_drawComings_65 rfl ⟨by omega, by omega⟩ ⟨by omega, by omega⟩ (by omega) ?_
          rw [show (nxr x / 65536).tmod D0 = (nxr x / 65536) % D0 from Int.tmod_eq_emod_of_nonneg (by omega)]
          refine Rj_l2i (q := 67) d_D_drawComings_66 rfl ?_
          refine Rj_goto (t := 71) d_D_drawComings_67 (by decide) ?_
          refine Rj_is (q := 72) aD_88 rfl (by omega) d_D_drawComings_71 rfl ?_
          refine Rj_iinc (q := 75) (ls' := [vA 0, vL x0, vU, vI N, vL (nxr x), vU, vI (i + 1)]) d_D_drawComings_72 rfl rfl (by decide) rfl ?_
          refine Rj_goto (t := 6) d_D_drawComings_75 (by decide) ?_
          refine ih (μ := (mset μ 88 i ((nxr x / 65536) % D0))) (by omega) hx hN hD (by omega) (by rw [itr_s hi.1, ← hxi]) (fun j j0 j1 => ?_) (fun m f q => hQ m (Fr.trans (Fr.put (Fr.refl _ _) rfl) f) q)
          by_cases e : j = i
          · rw [e, mset_same]
            show (nxr x / 65536) % D0 = (itr (i.toNat + 1) x0 / 65536) % D0
            rw [hxi]; rfl
          · rw [mset_ne _ _ _ _ _ e]; exact hb j j0 (by omega)
set_option maxHeartbeats 4000000 in
theorem s_draw {μ : Mem} {Q : PV → Mem → Prop} {x N D0 : Int} (hx : 0 ≤ x ∧ x ≤ 2147483647) (hN : 0 ≤ N ∧ N ≤ 60) (hD : μ 3 0 = D0 ∧ 0 < D0 ∧ D0 ≤ 12) (hQ : ∀ μ', Fr (fun c _ => c = 88) μ μ' → (∀ j, 0 ≤ j → j < N → μ' 88 j = drw D0 x j) → Q (vL (itr N.toNat x)) μ') : Rj YD y_D_drawComings 0 [vA 0, vL x, vU, vI N] [] μ Q := by
  refine Rj_lload_n (q := 1) d_D_drawComings_0 rfl rfl rfl ?_
  refine Rj_lstore (q := 3) (ls' := [vA 0, vL x, vU, vI N, vL x, vU]) d_D_drawComings_1 rfl (by decide) rfl ?_
  refine Rj_iconst (q := 4) d_D_drawComings_3 rfl ?_
  refine Rj_istore (q := 6) (ls' := [vA 0, vL x, vU, vI N, vL x, vU, vI 0]) d_D_drawComings_4 rfl (by decide) rfl ?_
  exact s_draw_6 _ (Nat.lt_succ_self _) hx hN hD (by omega) rfl (fun j j0 j1 => absurd j1 (by omega)) hQ
