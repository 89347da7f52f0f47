/-! the class's search, from its start; it is the reference's -/
section CGR
variable {SB WB al al' : Int → Bool} {st : Int → Int} {D k : Int}
theorem drs_congr (h : ∀ d, 0 ≤ d → d < D → al d = al' d) : ∀ (f : Nat) (d : Int) (σ : BS), 0 ≤ d → drs SB WB al st D k f d σ = drs SB WB al' st D k f d σ
  | 0, d, σ, _ => rfl
  | f + 1, d, σ, d0 => by
    by_cases c1 : d < D
    · have e := h d d0 c1
      by_cases c2 : al d = true
      · have c2' : al' d = true := by rw [← e]; exact c2
        cases hs : spr SB WB (st d) (σ.1 k) k d 122 (-60) σ with
        | inl r => rw [drs_inl c1 c2 hs, drs_inl c1 c2' hs]
        | inr τ => rw [drs_inr c1 c2 hs, drs_inr c1 c2' hs]; exact drs_congr h f (d + 1) τ (by omega)
      · rw [drs_skip c1 c2, drs_skip c1 (by rw [← e]; exact c2)]; exact drs_congr h f (d + 1) σ (by omega)
    · rw [drs_out c1, drs_out c1]
theorem sts_congr (h : ∀ d, 0 ≤ d → d < D → al d = al' d) : ∀ (f : Nat) (k : Int) (σ : BS), sts SB WB al st D f k σ = sts SB WB al' st D f k σ
  | 0, k, σ => rfl
  | f + 1, k, σ => by
    by_cases c1 : k < σ.2.2.2
    · have e := drs_congr (SB := SB) (WB := WB) (st := st) (k := k) h 13 0 σ (by decide)
      cases hs : drs SB WB al st D k 13 0 σ with
      | inl r => rw [sts_inl c1 hs, sts_inl c1 (e ▸ hs)]
      | inr τ => rw [sts_inr c1 hs, sts_inr c1 (e ▸ hs)]; exact sts_congr h f (k + 1) τ
    · rw [sts_out c1, sts_out c1]
theorem drs_none (h : ∀ d, 0 ≤ d → d < D → ¬ al d = true) : ∀ (f : Nat) (d : Int) (σ : BS), 0 ≤ d → drs SB WB al st D k f d σ = .inr σ
  | 0, d, σ, _ => rfl
  | f + 1, d, σ, d0 => by
    by_cases c1 : d < D
    · rw [drs_skip c1 (h d d0 c1)]; exact drs_none h f (d + 1) σ (by omega)
    · rw [drs_out c1]
theorem sts_none (h : ∀ d, 0 ≤ d → d < D → ¬ al d = true) : ∀ (f : Nat) (k : Int) (σ : BS), (sts SB WB al st D f k σ).2 = -2
  | 0, k, σ => rfl
  | f + 1, k, σ => by
    by_cases c1 : k < σ.2.2.2
    · rw [sts_inr c1 (drs_none h 13 0 σ (by decide))]; exact sts_none h f (k + 1) σ
    · rw [sts_out c1]
end CGR
def bs1 (μ : Mem) : BS := (fset (μ 75) 0 0, fset (μ 76) 0 (-1), fset (μ 77) 0 0, 1)
theorem bs1_SR (c : Int) (μ : Mem) : SR c z0 (bs1 μ) := by
  refine ⟨rfl, by show (0 : Int) ≤ 1; decide, fun s s0 s1 => ?_⟩
  have s2 : s < 1 := s1
  have e : s = 0 := by omega
  rw [e]
  unfold bs1 z0
  dsimp only
  rw [fset_same, fset_same, fset_same, fset_same, Int.mul_zero]
  exact ⟨rfl, rfl, rfl⟩
noncomputable def al2 (S lo : Int → Int) (l tc d : Int) : Bool := @decide (0 ≤ d ∧ d < S 0 ∧ alM S lo l tc d = true) (Classical.propDecidable _)
theorem al2_t {S lo : Int → Int} {l tc d : Int} : al2 S lo l tc d = true ↔ 0 ≤ d ∧ d < S 0 ∧ alM S lo l tc d = true := by unfold al2; exact @decide_eq_true_iff _ (Classical.propDecidable _)
theorem al2_M {S lo : Int → Int} {l tc d : Int} (d0 : 0 ≤ d) (d1 : d < S 0) : al2 S lo l tc d = alM S lo l tc d := by
  apply Bool.eq_iff_iff.mpr
  rw [al2_t]
  exact ⟨fun q => q.2.2, fun q => ⟨d0, d1, q⟩⟩
theorem srch_D {μ : Mem} {S lo up dn lk pl : Int → Int} {l tc wt wo ws wa pu a b c : Int} (h : GX μ S lo up dn lk pl) (hC : CHO μ S lo lk l tc wt wo ws wa pu a b) (hl : 0 ≤ l ∧ l < S 0 ∧ lo l = l) (hc : c * bel S lo up dn lk l = pts S) (hk : lk l = 0) (ν : Mem) :
    (srch S lo up dn pl tc wt l).2 = (sts (fun t => stdB S lo up dn pl l wt (c * t)) (fun t => wtdB S lo up dn pl l (c * t)) (alD pu) (fun d => stp S lo up dn lk d l) (S 0) 2002 0 (bs1 ν)).2 ∧ SR c (srch S lo up dn pl tc wt l).1 (sts (fun t => stdB S lo up dn pl l wt (c * t)) (fun t => wtdB S lo up dn pl l (c * t)) (alD pu) (fun d => stp S lo up dn lk d l) (S 0) 2002 0 (bs1 ν)).1 := by
  have hS := h.1
  have hH := h.2.2.1
  have l1 : 0 ≤ l ∧ l < S 0 := ⟨hl.1, hl.2.1⟩
  have z6 := (pts_bd hS).1
  have cz : c ≠ 0 := fun q => by rw [q, Int.zero_mul] at hc; omega
  have kd : ∀ d, 0 ≤ d → d < S 0 → lo d = l → lk d = 0 := fun d d0 d1 d2 => by rw [lk_alike hH ⟨d0, d1⟩ l1 (by omega)]; exact hk
  have e1 : sts (fun t => stdB S lo up dn pl l wt (c * t)) (fun t => wtdB S lo up dn pl l (c * t)) (alD pu) (fun d => stp S lo up dn lk d l) (S 0) 2002 0 (bs1 ν) = sts (fun t => stdB S lo up dn pl l wt (c * t)) (fun t => wtdB S lo up dn pl l (c * t)) (al2 S lo l tc) (fun d => stp S lo up dn lk d l) (S 0) 2002 0 (bs1 ν) := by
    refine sts_alike (fun d d0 q => ?_) (fun d d0 q => ?_) 2002 0 _ (by decide)
    · have r := hC.2.2.2.1 d d0 (alD_t.mp q)
      exact al2_t.mpr ⟨d0, r.1.1, alM_t.mpr ⟨r.1.2, r.2.1, r.2.2.1⟩⟩
    · obtain ⟨-, d1, r⟩ := al2_t.mp q
      have r2 := alM_t.mp r
      rcases hC.2.2.2.2.1 d d0 d1 r2.1 r2.2.1 r2.2.2 (by rw [kd d d0 d1 r2.1]; decide) with s | ⟨e, e0, e2, e3, e4⟩
      · exact Or.inl (alD_t.mpr s)
      · refine Or.inr ⟨e, e0, e2, alD_t.mpr e3, ?_⟩
        have re := hC.2.2.2.1 e e0 e3
        have s1 := stp_of h (p := d) (d := l) ⟨d0, d1⟩ l1 (by omega) hk
        have s2 := stp_of h (p := e) (d := l) ⟨e0, re.1.1⟩ l1 (by have := re.1.2; omega) hk
        rw [s1, s2] at e4
        have e5 : stp S lo up dn lk d l = stp S lo up dn lk e l ∨ stp S lo up dn lk d l = -stp S lo up dn lk e l := by omega
        exact e5
  have e2 : srch S lo up dn pl tc wt l = sts (stdB S lo up dn pl l wt) (wtdB S lo up dn pl l) (al2 S lo l tc) (fun d => pof (pts S) up dn d l) (S 0) 2002 0 z0 := by
    unfold srch
    exact sts_congr (fun d d0 d1 => (al2_M d0 d1).symm) 2002 0 z0
  rw [e1, e2]
  refine sts_sim (st := fun d => pof (pts S) up dn d l) (st' := (fun d => stp S lo up dn lk d l)) cz (fun d q => ?_) 2002 0 z0 (bs1 ν) (bs1_SR c ν) (by decide)
  obtain ⟨d0, d1, r⟩ := al2_t.mp q
  have r2 := alM_t.mp r
  exact stp_pof hS hH l1 ⟨d0, d1⟩ (by omega) hk hc
set_option maxHeartbeats 4000000 in
theorem s_search {μ : Mem} {Q : PV → Mem → Prop} {S lo up dn lk pl : Int → Int} {l tc wt wo ws wa pu a b c : Int} (h : GX μ S lo up dn lk pl) (hC : CHO μ S lo lk l tc wt wo ws wa pu a b) (hl : 0 ≤ l ∧ l < S 0 ∧ lo l = l) (hc : c * bel S lo up dn lk l = pts S) (hQ : ∀ μ', Fr Wsd μ μ' → bsD μ' = (sts (fun t => stdB S lo up dn pl l wt (c * t)) (fun t => wtdB S lo up dn pl l (c * t)) (alD pu) (fun d => stp S lo up dn lk d l) (S 0) 2002 0 (bs1 μ)).1 → Q (vI (sts (fun t => stdB S lo up dn pl l wt (c * t)) (fun t => wtdB S lo up dn pl l (c * t)) (alD pu) (fun d => stp S lo up dn lk d l) (S 0) 2002 0 (bs1 μ)).2) μ') : Rj YD y_Pl_search 0 [vA 74] [] μ Q := by
  refine Rj_aload_n (q := 1) d_Pl_search_0 rfl rfl rfl ?_
  refine Rj_gr (q := 4) (zd := 78) gD_Pl_22_74 rfl rfl d_Pl_search_1 rfl ?_
  refine Rj_iconst (q := 5) d_Pl_search_4 rfl ?_
  refine Rj_csv (q := 8) (z := y_Jarr_fill_aII) (as := [vA 78, vI 0]) (rest := []) (la := [vA 78, vI 0]) ml_Pl_138 mw_Jarr_fill_aII ms_Jarr_fill_aII d_Pl_search_5 rfl rfl rfl rfl rfl ?_
  refine s_Jarr_fill_aII aD_78 rfl (fun m5 f5 q5 => ?_)
  refine Rj_aload_n (q := 9) d_Pl_search_8 rfl rfl rfl ?_
  refine Rj_iconst (q := 10) d_Pl_search_9 rfl ?_
  refine Rj_pi (q := 13) (ki := 6) pD_Pl_144_74 rfl rfl d_Pl_search_10 rfl ?_
  refine Rj_aload_n (q := 14) d_Pl_search_13 rfl rfl rfl ?_
  refine Rj_lconst (q := 15) (z := 0) d_Pl_search_14 rfl rfl ?_
  refine Rj_vo (q := 18) (z := y_Pl_isKnown) (as := [vL 0]) (rest := []) (la := [vA 74, vL 0, vU]) oD_74_Pl_isKnown ml_Pl_147 mw_Pl_isKnown mv_Pl_isKnown rfl d_Pl_search_15 rfl rfl rfl rfl rfl ?_
  refine s_isKnown (m := 0) (HTB.empty (by decide) (fun p p0 p1 => q5 p p0 p1)) rfl (fun s s0 s1 => by omega) (by decide) (by decide) (fun q => absurd q (fun ⟨s, s0, s1, _⟩ => by omega)) (fun fp q15 F => ?_)
  refine Rj_pop (q := 19) d_Pl_search_18 rfl (by intro h; cases h) ?_
  refine Rj_aload_n (q := 20) d_Pl_search_19 rfl rfl rfl ?_
  refine Rj_lconst (q := 21) (z := 0) d_Pl_search_20 rfl rfl ?_
  refine Rj_iconst (q := 22) d_Pl_search_21 rfl ?_
  refine Rj_iconst (q := 23) d_Pl_search_22 rfl ?_
  refine Rj_vov (q := 26) (z := y_Pl_addState) (as := [vL 0, vI (-1), vI 0]) (rest := []) (la := [vA 74, vL 0, vU, vI (-1), vI 0]) oD_74_Pl_addState ml_Pl_150 mw_Pl_addState mv_Pl_addState rfl d_Pl_search_23 rfl rfl rfl rfl rfl ?_
  refine s_addState (m := 0) (HTB.empty (by decide) (fun p p0 p1 => q5 p p0 p1)) rfl rfl F (by decide) (fun m f1 g1 g2 g3 g4 g5 => ?_)
  have fs : Fr Wsd μ m := ((Fr.put (Fr.put (Fr.wide f5 (fun c i q => by unfold Wsd; omega)) (by unfold Wsd; omega)) (by unfold Wsd; omega)) : Fr Wsd μ _).trans (Fr.wide f1 (fun c i q => by unfold Wsd; omega))
  have bsm : bsD m = bs1 μ := by
    have r75 : m 75 = fset (μ 75) 0 0 := funext fun i => by
      by_cases e : i = 0
      · rw [e, fset_same]; exact g2
      · rw [fset_ne _ e]; exact (f1 75 i (by omega)).trans (f5 75 i (by omega))
    have r76 : m 76 = fset (μ 76) 0 (-1) := funext fun i => by
      by_cases e : i = 0
      · rw [e, fset_same]; exact g3
      · rw [fset_ne _ e]; exact (f1 76 i (by omega)).trans (f5 76 i (by omega))
    have r77 : m 77 = fset (μ 77) 0 0 := funext fun i => by
      by_cases e : i = 0
      · rw [e, fset_same]; exact g4
      · rw [fset_ne _ e]; exact (f1 77 i (by omega)).trans (f5 77 i (by omega))
    unfold bsD bs1
    rw [r75, r76, r77, g5]; rfl
  have g5' : m 74 6 = 1 := g5
  have hIm : SID m S lo up dn lk l c := by
    refine ⟨by rw [g5]; exact g1, by omega, fun s s0 s1 => ?_⟩
    have e : s = 0 := by omega
    rw [e, g2, Int.mul_zero]; exact ⟨TR_0, RB_0⟩
  refine Rj_iconst (q := 27) d_Pl_search_26 rfl ?_
  refine Rj_istore_n (q := 28) (ls' := [vA 74, vI 0]) d_Pl_search_27 rfl rfl (by decide) rfl ?_
  refine s_search_28 (μ := m) 2002 (by decide) (h.sd fs) (hC.sd fs) hIm hl hc (by omega) (fun m2 b2 c2 => ?_)
  rw [bsm] at c2 ⊢
  exact hQ m2 (fs.trans b2) c2
theorem s_srchD {μ : Mem} {Q : PV → Mem → Prop} {S lo up dn lk pl : Int → Int} {l tc wt wo ws wa pu a b c : Int} (h : GX μ S lo up dn lk pl) (hC : CHO μ S lo lk l tc wt wo ws wa pu a b) (hl : 0 ≤ l ∧ l < S 0 ∧ lo l = l) (hc : c * bel S lo up dn lk l = pts S)
    (hQ : ∀ μ', Fr Wsd μ μ' → (0 ≤ resP S lo up dn pl lk tc wt l → ∃ m : Int, m ≤ 2000 ∧ resP S lo up dn pl lk tc wt l < m ∧ DOWN (μ' 76) m ∧ dpt (μ' 76) 2001 (resP S lo up dn pl lk tc wt l) = dpP S lo up dn pl tc wt l ∧ ∀ i, kth (μ' 76) (μ' 77) 2001 (resP S lo up dn pl lk tc wt l) i = ktP S lo up dn pl tc wt l i) → Q (vI (resP S lo up dn pl lk tc wt l)) μ') : Rj YD y_Pl_search 0 [vA 74] [] μ Q := by
  have hH := h.2.2.1
  refine s_search h hC hl hc (fun μ' f e => ?_)
  by_cases u : lk l = 0
  · have er : resP S lo up dn pl lk tc wt l = (srch S lo up dn pl tc wt l).2 := by unfold resP; rw [if_pos u]
    obtain ⟨s1, s2⟩ := srch_D h hC hl hc u μ
    rw [← s1]
    have q := hQ μ' f
    rw [er] at q
    refine q (fun q0 => ?_)
    rw [← e] at s2
    have dp := srch_dp (S := S) (lo := lo) (up := up) (dn := dn) (pl := pl) (tc := tc) (wt := wt) (l := l)
    have hd := dp.1.1
    have ec : (srch S lo up dn pl tc wt l).1.2.2.2 = (bsD μ').2.2.2 := s2.1
    have a : ∀ s, 0 ≤ s → s < (srch S lo up dn pl tc wt l).1.2.2.2 → (srch S lo up dn pl tc wt l).1.2.1 s = μ' 76 s ∧ (srch S lo up dn pl tc wt l).1.2.2.1 s = μ' 77 s := fun s a b => (s2.2.2 s a (by rw [← ec]; exact b)).2
    have lt : (srch S lo up dn pl tc wt l).2 < (srch S lo up dn pl tc wt l).1.2.2.2 := by omega
    refine ⟨(srch S lo up dn pl tc wt l).1.2.2.2, dp.1.2.2, lt, ⟨?_, fun s a1 a2 => ?_⟩, ?_, fun i => ?_⟩
    · rw [← (a 0 (by decide) (by omega)).1]; exact hd.1
    · rw [← (a s (by omega) a2).1]; exact hd.2 s a1 a2
    · exact (dpt_SR hd (fun s a1 a2 => (a s a1 a2).1) 2001 _ q0 lt).symm
    · exact (kth_SR hd a 2001 _ i q0 lt).symm
  · have er : resP S lo up dn pl lk tc wt l = -2 := by unfold resP; rw [if_neg u]
    have q := hQ μ' f (fun q => by omega)
    rw [er] at q
    rw [sts_none (fun d d0 d1 r => ?_)]
    · exact q
    · have r2 := hC.2.2.2.1 d d0 (alD_t.mp r)
      have l1 : 0 ≤ l ∧ l < S 0 := ⟨hl.1, hl.2.1⟩
      have ek := lk_alike hH ⟨d0, d1⟩ l1 (by have := r2.1.2; omega)
      have := (hH.2 l l1.1 l1.2).1
      have := r2.2.2.2
      omega
