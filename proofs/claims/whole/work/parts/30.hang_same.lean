/-! two hangings of one street are alike -/
theorem HI_lab {S : Int → Int} {w : Int} {lo up dn : Int → Int} (hS : StrOK S) (h : HI S w (S 0) (S 0) lo up dn) : lab S w lo := by
  obtain ⟨a1, a2, a3, a4, -⟩ := h
  intro j hj
  obtain ⟨ra, rb, -, -⟩ := act_rng hS hj
  have x := a1 _ ra.1 ra.2
  have y := a2 _ ra.1 ra.2 ra.2
  exact ((a4 j hj).1 y (by omega)).symm
theorem HI_lo {S : Int → Int} {w : Int} {lo up dn lo' up' dn' : Int → Int} (hS : StrOK S) (h : HI S w (S 0) (S 0) lo up dn) (h' : HI S w (S 0) (S 0) lo' up' dn') : ∀ d, 0 ≤ d → d < S 0 → lo d = lo' d := by
  have key : ∀ {lo up dn lo' up' dn' : Int → Int}, HI S w (S 0) (S 0) lo up dn → HI S w (S 0) (S 0) lo' up' dn' → ∀ d, 0 ≤ d → d < S 0 → lo' d ≤ lo d := by
    intro lo up dn lo' up' dn' h h' d h1 h2
    have hl := HI_lab hS h'
    obtain ⟨a1, a2, a3, -⟩ := h
    obtain ⟨b1, b2, -⟩ := h'
    have y := a2 d h1 h2 h2
    have e := a3 d h1 h2 y lo' hl
    have x := a1 d h1 h2
    have z := b1 (lo d) y (by omega)
    have z2 := b2 (lo d) y (by omega) (by omega)
    omega
  intro d h1 h2
  have := key h h' d h1 h2
  have := key h' h d h1 h2
  omega
theorem frac_eq {a b c d : Int} (hb : 0 < b) (hd : 0 < d) (h1 : Int.gcd a b = 1) (h2 : Int.gcd c d = 1) (h : a * d = c * b) : a = c ∧ b = d := by
  have e1 : b ∣ d := by
    have h3 : b.natAbs ∣ a.natAbs * d.natAbs := by rw [← Int.natAbs_mul]; exact Int.natAbs_dvd_natAbs.mpr ⟨c, by rw [h, Int.mul_comm]⟩
    exact Int.natAbs_dvd_natAbs.mp (Nat.Coprime.dvd_of_dvd_mul_left (Nat.Coprime.symm h1) h3)
  have e2 : d ∣ b := by
    have h3 : d.natAbs ∣ c.natAbs * b.natAbs := by rw [← Int.natAbs_mul]; exact Int.natAbs_dvd_natAbs.mpr ⟨a, by rw [← h, Int.mul_comm]⟩
    exact Int.natAbs_dvd_natAbs.mp (Nat.Coprime.dvd_of_dvd_mul_left (Nat.Coprime.symm h2) h3)
  have e : b = d := by
    have l1 := Int.le_of_dvd hd e1
    have l2 := Int.le_of_dvd hb e2
    omega
  subst e
  exact ⟨Int.eq_of_mul_eq_mul_right (by omega) h, rfl⟩
/-- where nothing is locked on one side, the other side's ratios are the same -/
theorem HI_pot {S : Int → Int} {w : Int} {lo up dn lo' up' dn' : Int → Int} (hS : StrOK S) (h : HI S w (S 0) (S 0) lo up dn) (h' : HI S w (S 0) (S 0) lo' up' dn') {d : Int} (hd : 0 ≤ d ∧ d < S 0) (hn : ¬ lkP S w lo up dn d) : ∀ x, 0 ≤ x → x < S 0 → lo x = lo d → up x = up' x ∧ dn x = dn' x := by
  have elo := HI_lo hS h h'
  have hlab := HI_lab hS h
  obtain ⟨a1, a2, a3, a4, a5, -⟩ := id h
  obtain ⟨b1, b2, b3, b4, b5, b6, -⟩ := id h'
  intro x x1 x2 hx
  have ys := a2 d hd.1 hd.2 hd.2
  have xs := a1 d hd.1 hd.2
  have hroot : lo (lo d) = lo d := by rcases xs with q | q <;> omega
  have hrr : 0 ≤ lo d ∧ lo d < S 0 := by omega
  have hpq := (a5 (lo d) hrr.1 hrr.2 (by omega)).2.2.2 hroot
  have yx := a2 x x1 x2 x2
  have k := b6 (fun i => if 0 ≤ i ∧ i < S 0 then up i else 0) (fun i => if 0 ≤ i ∧ i < S 0 then dn i else 1) (fun i => by
      split
      · rename_i hi
        have := (a5 i hi.1 hi.2 (a2 i hi.1 hi.2 hi.2)).1
        omega
      · decide) (lo d) (fun j hj hc => by
      obtain ⟨ra, rb, rne, rk⟩ := act_rng hS hj
      have e := hc lo hlab
      rw [hroot] at e
      have hcp : compat S up dn j := Classical.byContradiction (fun q => hn ⟨j, hj, e, q⟩)
      unfold compat at hcp ⊢
      simp only [if_pos ra, if_pos rb]
      exact hcp) (by
      rw [if_pos hrr, if_pos hrr, hpq.1, hpq.2]) x x1 x2 (by rw [← elo x x1 x2]; exact yx) (by rw [← elo x x1 x2]; exact hx)
  rw [if_pos ⟨x1, x2⟩, if_pos ⟨x1, x2⟩] at k
  have p1 := a5 x x1 x2 yx
  have p2 := b5 x x1 x2 (by rw [← elo x x1 x2]; exact yx)
  exact frac_eq p1.1 p2.1 p1.2.2.1 p2.2.2.1 k
theorem HI_lk {S : Int → Int} {w : Int} {lo up dn lo' up' dn' : Int → Int} (hS : StrOK S) (h : HI S w (S 0) (S 0) lo up dn) (h' : HI S w (S 0) (S 0) lo' up' dn') {d : Int} (hd : 0 ≤ d ∧ d < S 0) : lkP S w lo up dn d ↔ lkP S w lo' up' dn' d := by
  have key : ∀ {lo up dn lo' up' dn' : Int → Int}, HI S w (S 0) (S 0) lo up dn → HI S w (S 0) (S 0) lo' up' dn' → ¬ lkP S w lo up dn d → ¬ lkP S w lo' up' dn' d := by
    intro lo up dn lo' up' dn' h h' hn ⟨j, hj, h1, h2⟩
    have hp := HI_pot hS h h' hd hn
    have elo := HI_lo hS h h'
    have hlab := HI_lab hS h
    obtain ⟨ra, rb, rne, rk⟩ := act_rng hS hj
    have e1 : lo (jn S j 0) = lo d := by rw [elo _ ra.1 ra.2, elo _ hd.1 hd.2]; exact h1
    have e2 : lo (jn S j 1) = lo d := by rw [← hlab j hj]; exact e1
    apply h2
    have hcp : compat S up dn j := Classical.byContradiction (fun q => hn ⟨j, hj, e1, q⟩)
    unfold compat at hcp ⊢
    obtain ⟨q1, q2⟩ := hp _ ra.1 ra.2 e1
    obtain ⟨q3, q4⟩ := hp _ rb.1 rb.2 e2
    rw [← q1, ← q2, ← q3, ← q4]
    exact hcp
  exact ⟨fun q => Classical.byContradiction (fun n => key h' h n q), fun q => Classical.byContradiction (fun n => key h h' n q)⟩
/-- the ratio of p to d, whole in parts: numbers for both sides -/
theorem prdB_split {S : Int → Int} {u : Nat → Bool} : ∀ n : Nat, (∀ j, u j = true → axl S j = true) → prdB (axp S (axl S)) n = prdB (axp S u) n * prdB (axp S (fun j => axl S j && !u j)) n
  | 0, _ => rfl
  | n + 1, h => by
    unfold prdB
    rw [prdB_split n h]
    have : axp S (axl S) n = axp S u n * axp S (fun j => axl S j && !u j) n := by
      unfold axp
      by_cases hu : u n = true
      · simp [hu, h n hu]
      · cases ha : axl S n <;> simp [hu, ha]
    rw [this]
    grind
theorem cntB_split {p u : Nat → Bool} : ∀ n : Nat, (∀ j, u j = true → p j = true) → cntB p n = cntB u n + cntB (fun j => p j && !u j) n
  | 0, _ => rfl
  | n + 1, h => by
    unfold cntB
    rw [cntB_split n h]
    cases hu : u n with
    | true => rw [if_pos (h n hu), if_pos rfl, if_neg (by simp)]; omega
    | false => cases p n <;> simp <;> omega
/-- F d: what is below the line of d's place at most; the numbers of teeth by which d turns -/
theorem HI_F {S : Int → Int} {w b r : Int} {lo up dn : Int → Int} (hS : StrOK S) (h : HI S w b r lo up dn) : ∃ F G : Int → Int, (∀ d, (0 < F d ∧ F d ≤ 216000) ∧ 0 < G d ∧ F d * G d = pts S) ∧
    ∀ p d, 0 ≤ p → p < S 0 → 0 ≤ d → d < S 0 → 0 ≤ lo d → lo p = lo d → ∃ m : Int, m * (dn d * up p) = F d * (up d * dn p) ∧ (-216000 ≤ m ∧ m ≤ 216000) ∧ (-46656000000 ≤ m * G d ∧ m * G d ≤ 46656000000) := by
  obtain ⟨a1, a2, a3, a4, b1, b2, used, F, E, B, cB, c1, c2, c3, c4⟩ := h
  have hsub : ∀ j, used j = true → axl S j = true := fun j hu => (c1 j hu).2.1
  have hs := prdB_split (S := S) (u := used) (S 1).toNat hsub
  have hc := cntB_split (p := axl S) (u := used) (S 1).toNat hsub
  have hr := prdB_bd (u := fun j => axl S j && !used j) hS (S 1).toNat (by have := hS.2.1; omega)
  have h3 := hS.2.2.2.2
  generalize prdB (axp S fun j => axl S j && !used j) (S 1).toNat = R at *
  generalize cntB (fun j => axl S j && !used j) (S 1).toNat = cr at *
  generalize cntB used (S 1).toNat = cu at *
  have hBR : 1 ≤ B ∧ B ≤ 216000 ∧ B * B * R ≤ 46656000000 := by
    have hB1 : (1 : Int) ≤ 60 ^ cu := by
      have := ipow_le (c := 60) (by decide) (show 0 ≤ cu by omega)
      simpa using this
    have hB2 : (60 : Int) ^ cu ≤ 216000 := pow60 (by omega)
    refine ⟨by omega, by omega, ?_⟩
    have q1 : B * B * R ≤ B * B * 3600 ^ cr := Int.mul_le_mul_of_nonneg_left hr.2 (by rw [cB]; exact Int.mul_nonneg (by omega) (by omega))
    have q2 : B * B * 3600 ^ cr ≤ 46656000000 := by
      rw [cB]
      have e : cu + cr ≤ 3 := by omega
      have e1 : cu = 0 ∨ cu = 1 ∨ cu = 2 ∨ cu = 3 := by omega
      have e2 : cr = 0 ∨ cr = 1 ∨ cr = 2 ∨ cr = 3 := by omega
      clear hc hr hs cB hB1 hB2 q1 h3
      rcases e1 with e1 | e1 | e1 | e1 <;> rcases e2 with e2 | e2 | e2 | e2 <;> first | (exfalso; omega) | (rw [e1, e2]; decide)
    omega
  refine ⟨F, fun d => E d * R, fun d => ?_, fun p d p1 p2 d1 d2 hl he => ?_⟩
  · obtain ⟨f1, f2, f3⟩ := c2 d
    refine ⟨⟨f1.1, by omega⟩, Int.mul_pos f2.1 (by omega), ?_⟩
    unfold pts
    rw [hs, ← f3]
    grind
  · obtain ⟨m, m1, m2⟩ := c4 p d p1 p2 d1 d2 hl he
    refine ⟨m, m1, by omega, ?_⟩
    obtain ⟨f1, f2, f3⟩ := c2 d
    have q1 := mul_bd m2 (show -B ≤ E d ∧ E d ≤ B by omega)
    have q2 := mul_bd q1 (show -R ≤ R ∧ R ≤ R by omega)
    have e : m * (E d * R) = m * E d * R := by grind
    rw [e]
    omega
