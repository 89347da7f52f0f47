/-! the reference plans -/
noncomputable def srch (S lo up dn pl : Int → Int) (tc wt l : Int) : BS × Int := sts (stdB S lo up dn pl l wt) (wtdB S lo up dn pl l) (alM S lo l tc) (fun d => pof (pts S) up dn d l) (S 0) 2002 0 z0
noncomputable def resP (S lo up dn pl lk : Int → Int) (tc wt l : Int) : Int := if lk l = 0 then (srch S lo up dn pl tc wt l).2 else -2
noncomputable def dpP (S lo up dn pl : Int → Int) (tc wt l : Int) : Int := dpt (srch S lo up dn pl tc wt l).1.2.1 2001 (srch S lo up dn pl tc wt l).2
noncomputable def ktP (S lo up dn pl : Int → Int) (tc wt l i : Int) : Int := kth (srch S lo up dn pl tc wt l).1.2.1 (srch S lo up dn pl tc wt l).1.2.2.1 2001 (srch S lo up dn pl tc wt l).2 i
noncomputable def acP (S lo up dn pl : Int → Int) (d : Int) : Bool := @decide (lo d = d ∧ smt S lo d ∧ ¬ wtd S lo up dn pl d 0) (Classical.propDecidable _)
theorem acP_t {S lo up dn pl : Int → Int} {d : Int} : acP S lo up dn pl d = true ↔ lo d = d ∧ smt S lo d ∧ ¬ wtd S lo up dn pl d 0 := by unfold acP; exact @decide_eq_true_iff _ (Classical.propDecidable _)
theorem bs0_SR (μ : Mem) : SR 1 (bs0 μ) z0 := by
  refine ⟨rfl, by decide, fun s s0 s1 => ?_⟩
  have s2 : s < 1 := s1
  have e : s = 0 := by omega
  rw [e]
  unfold bs0 z0
  dsimp only
  rw [fset_same, fset_same, fset_same, fset_same]
  exact ⟨rfl, rfl, rfl⟩
theorem srch_of {S lo up dn pl : Int → Int} {tc wt l : Int} (μ : Mem) : (sts (stdB S lo up dn pl l wt) (wtdB S lo up dn pl l) (alM S lo l tc) (fun d => pof (pts S) up dn d l) (S 0) 2002 0 (bs0 μ)).2 = (srch S lo up dn pl tc wt l).2 ∧ SR 1 (sts (stdB S lo up dn pl l wt) (wtdB S lo up dn pl l) (alM S lo l tc) (fun d => pof (pts S) up dn d l) (S 0) 2002 0 (bs0 μ)).1 (srch S lo up dn pl tc wt l).1 := by
  have q := sts_sim (c := 1) (SB := stdB S lo up dn pl l wt) (WB := wtdB S lo up dn pl l) (al := alM S lo l tc) (st := fun d => pof (pts S) up dn d l) (st' := fun d => pof (pts S) up dn d l) (D := S 0) (by decide) (fun d _ => (Int.one_mul _).symm) 2002 0 (bs0 μ) z0 (bs0_SR μ) (by decide)
  have e1 : (fun t => stdB S lo up dn pl l wt (1 * t)) = stdB S lo up dn pl l wt := funext fun t => by rw [Int.one_mul]
  have e2 : (fun t => wtdB S lo up dn pl l (1 * t)) = wtdB S lo up dn pl l := funext fun t => by rw [Int.one_mul]
  rw [e1, e2] at q
  exact q
theorem srch_dp {S lo up dn pl : Int → Int} {tc wt l : Int} : DP (srch S lo up dn pl tc wt l).1 ∧ ((srch S lo up dn pl tc wt l).2 = -2 ∨ (srch S lo up dn pl tc wt l).2 = -3 ∨ (0 < (srch S lo up dn pl tc wt l).2 ∧ (srch S lo up dn pl tc wt l).2 < (srch S lo up dn pl tc wt l).1.2.2.2)) := sts_dp _ _ _ z0_dp (by decide)
theorem resP_c {S lo up dn pl lk : Int → Int} {tc wt l : Int} : resP S lo up dn pl lk tc wt l = -2 ∨ resP S lo up dn pl lk tc wt l = -3 ∨ (0 < resP S lo up dn pl lk tc wt l ∧ resP S lo up dn pl lk tc wt l < 2000) := by
  unfold resP
  have q := srch_dp (S := S) (lo := lo) (up := up) (dn := dn) (pl := pl) (tc := tc) (wt := wt) (l := l)
  have q1 := q.1.2
  by_cases c : lk l = 0
  · rw [if_pos c]; omega
  · rw [if_neg c]; exact Or.inl rfl
theorem s_M_srch {μ : Mem} {Q : PV → Mem → Prop} {S lo up dn pl lk : Int → Int} {l tc wt : Int} (h : MX μ) (E : EQM μ S lo up dn pl) (ek : μ 17 = lk) (hl : 0 ≤ l ∧ l < S 0 ∧ lo l = l) (hw : 0 ≤ wt ∧ wt ≤ 2147483647) (hw3 : 0 ≤ S 3 ∧ S 3 ≤ 2147483647) (hw4 : 0 ≤ S 4 ∧ S 4 ≤ 2147483647) (htc : 0 ≤ tc ∧ tc ≤ 2147483647)
    (hQ : ∀ μ', Fr Wse μ μ' → (0 ≤ resP S lo up dn pl lk tc wt l → ∃ m : Int, m ≤ 2000 ∧ resP S lo up dn pl lk tc wt l < m ∧ DOWN (μ' 19) m ∧ dpt (μ' 19) 2001 (resP S lo up dn pl lk tc wt l) = dpP S lo up dn pl tc wt l ∧ ∀ i, kth (μ' 19) (μ' 20) 2001 (resP S lo up dn pl lk tc wt l) i = ktP S lo up dn pl tc wt l i) → Q (vI (resP S lo up dn pl lk tc wt l)) μ') : Rj YM y_M_searches 0 [vA 0, vI l, vI tc, vI wt] [] μ Q := by
  obtain ⟨e11, e14, e15, e16, e12⟩ := id E
  refine s_M_searches h E hl hw hw3 hw4 htc (fun u x x0 x1 x2 => ?_) (fun u => ?_) (fun u μ' f e => ?_)
  · have hH := h.2.1
    have a := (Hung_lk hH (d := l) (by rw [e11]; omega)).mp u
    refine (Hung_lk hH (d := x) (by rw [e11]; omega)).mpr (fun q => a ?_)
    obtain ⟨j, j1, j2, j3⟩ := q
    refine ⟨j, j1, ?_, j3⟩
    rw [j2, e14, x2, hl.2.2]
  · have er : resP S lo up dn pl lk tc wt l = -2 := by unfold resP; rw [if_neg (by rw [← ek]; exact u)]
    have q := hQ μ (Fr.refl _ _) (fun q => by omega)
    rw [er] at q
    exact q
  · have er : resP S lo up dn pl lk tc wt l = (srch S lo up dn pl tc wt l).2 := by unfold resP; rw [if_pos (by rw [← ek]; exact u)]
    obtain ⟨s1, s2⟩ := srch_of (S := S) (lo := lo) (up := up) (dn := dn) (pl := pl) (tc := tc) (wt := wt) (l := l) μ
    rw [s1]
    have q := hQ μ' f
    rw [er] at q
    refine q (fun q0 => ?_)
    rw [← e] at s2
    have dp := srch_dp (S := S) (lo := lo) (up := up) (dn := dn) (pl := pl) (tc := tc) (wt := wt) (l := l)
    have hd := dp.1.1
    have a : ∀ s, 0 ≤ s → s < (srch S lo up dn pl tc wt l).1.2.2.2 → (srch S lo up dn pl tc wt l).1.2.1 s = μ' 19 s ∧ (srch S lo up dn pl tc wt l).1.2.2.1 s = μ' 20 s := fun s a b => ⟨(s2.2.2 s a b).2.1.symm, (s2.2.2 s a b).2.2.symm⟩
    have lt : (srch S lo up dn pl tc wt l).2 < (srch S lo up dn pl tc wt l).1.2.2.2 := by omega
    refine ⟨(srch S lo up dn pl tc wt l).1.2.2.2, dp.1.2.2, lt, ⟨?_, fun s a1 a2 => ?_⟩, ?_, fun i => ?_⟩
    · rw [← (a 0 (by decide) (by omega)).1]; exact hd.1
    · rw [← (a s (by omega) a2).1]; exact hd.2 s a1 a2
    · exact (dpt_SR hd (fun s a1 a2 => (a s a1 a2).1) 2001 _ q0 lt).symm
    · exact (kth_SR hd a 2001 _ i q0 lt).symm
section PLN
variable {D : Int} {ac : Int → Bool} {res dp : Int → Int} {kt : Int → Int → Int} {f : Nat} {d b u no k : Int}
def plV (D : Int) (ac : Int → Bool) (res dp : Int → Int) (no : Int) (f : Nat) (d b u : Int) : Int := if no = 1 then -2 else pln D ac res dp f d b u
theorem pln_out (h : ¬ d < D) : pln D ac res dp (f + 1) d b u = if u = 1 then -3 else b := by
  show (if _ then _ else _) = _
  rw [if_neg h]
theorem plV_skip (h : d < D) (h2 : ¬ ac d = true) : plV D ac res dp no (f + 1) d b u = plV D ac res dp no f (d + 1) b u := by
  unfold plV
  have e : pln D ac res dp (f + 1) d b u = pln D ac res dp f (d + 1) b u := by
    show (if _ then _ else _) = _
    rw [if_pos h, if_neg h2]
  rw [e]
theorem plV_no (h : d < D) (h2 : ac d = true) (h3 : res d = -2) : plV D ac res dp no (f + 1) d b u = plV D ac res dp 1 f (d + 1) b u := by
  unfold plV
  have e : pln D ac res dp (f + 1) d b u = -2 := by
    show (if _ then _ else _) = _
    rw [if_pos h, if_pos h2, if_pos h3]
  rw [e, if_pos rfl]
  by_cases c : no = 1
  · rw [if_pos c]
  · rw [if_neg c]
theorem plV_unk (h : d < D) (h2 : ac d = true) (h3 : res d = -3) : plV D ac res dp no (f + 1) d b u = plV D ac res dp no f (d + 1) b 1 := by
  unfold plV
  have e : pln D ac res dp (f + 1) d b u = pln D ac res dp f (d + 1) b 1 := by
    show (if _ then _ else _) = _
    rw [if_pos h, if_pos h2, if_neg (by omega), if_pos h3]
  rw [e]
theorem plV_go (h : d < D) (h2 : ac d = true) (h3 : 0 ≤ res d) : plV D ac res dp no (f + 1) d b u = plV D ac res dp no f (d + 1) (b + dp d) u := by
  unfold plV
  have e : pln D ac res dp (f + 1) d b u = pln D ac res dp f (d + 1) (b + dp d) u := by
    show (if _ then _ else _) = _
    rw [if_pos h, if_pos h2, if_neg (by omega), if_neg (by omega)]
  rw [e]
theorem pnd_out (h : ¬ d < D) : pnd D ac res dp (f + 1) d b = b := by
  show (if _ then _ else _) = _
  rw [if_neg h]
theorem pnd_skip (h : d < D) (h2 : ¬ (ac d = true ∧ 0 ≤ res d)) : pnd D ac res dp (f + 1) d b = pnd D ac res dp f (d + 1) b := by
  show (if _ then _ else _) = _
  rw [if_pos h, if_neg h2]
theorem pnd_go (h : d < D) (h2 : ac d = true ∧ 0 ≤ res d) : pnd D ac res dp (f + 1) d b = pnd D ac res dp f (d + 1) (b + dp d) := by
  show (if _ then _ else _) = _
  rw [if_pos h, if_pos h2]
theorem prw_skip (h : d < D) (h2 : ¬ (ac d = true ∧ 0 ≤ res d)) : prw D ac res dp kt (f + 1) d b k = prw D ac res dp kt f (d + 1) b k := by
  show (if _ then _ else _) = _
  rw [if_pos h, if_neg h2]
theorem prw_in (h : d < D) (h2 : ac d = true ∧ 0 ≤ res d) (h3 : k < b + dp d) : prw D ac res dp kt (f + 1) d b k = kt d (k - b) := by
  show (if _ then _ else _) = _
  rw [if_pos h, if_pos h2, if_pos h3]
theorem prw_go (h : d < D) (h2 : ac d = true ∧ 0 ≤ res d) (h3 : ¬ k < b + dp d) : prw D ac res dp kt (f + 1) d b k = prw D ac res dp kt f (d + 1) (b + dp d) k := by
  show (if _ then _ else _) = _
  rw [if_pos h, if_pos h2, if_neg h3]
end PLN
abbrev Wpl (c : Nat) (i : Int) : Prop := (18 ≤ c ∧ c ≤ 22) ∨ (c = 0 ∧ (i = 36 ∨ i = 39))
theorem MX.pl9 {μ ν : Mem} (h : MX μ) (f : Fr Wpl μ ν) : MX ν := by
  have r : ∀ c, c ≠ 0 → (c < 18 ∨ 22 < c) → ν c = μ c := fun c h0 h1 => f.row (fun i q => by unfold Wpl at q; omega)
  unfold MX
  rw [r 11 (by decide) (by decide), r 12 (by decide) (by decide), r 14 (by decide) (by decide), r 15 (by decide) (by decide), r 16 (by decide) (by decide), r 17 (by decide) (by decide), f 0 32 (by unfold Wpl; omega)]
  exact h
theorem EQM.pl9 {μ ν : Mem} {S lo up dn pl : Int → Int} (h : EQM μ S lo up dn pl) (f : Fr Wpl μ ν) : EQM ν S lo up dn pl := by
  have r : ∀ c, c ≠ 0 → (c < 18 ∨ 22 < c) → ν c = μ c := fun c h0 h1 => f.row (fun i q => by unfold Wpl at q; omega)
  unfold EQM
  rw [r 11 (by decide) (by decide), r 12 (by decide) (by decide), r 14 (by decide) (by decide), r 15 (by decide) (by decide), r 16 (by decide) (by decide)]
  exact h
