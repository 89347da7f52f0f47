/-! what a push that can be leaves true; sets of doors -/
theorem psh_ok {S lo up dn pl : Int → Int} {P p n : Int} : ∀ (f : Nat) (d m : Int), 0 ≤ d → (S 0 - d).toNat < f → 0 ≤ psh S lo up dn pl P p n f d m → ∀ y, d ≤ y → y < S 0 → lo y = lo p → byd S P y (pl y + n * pof P up dn p y) = false
  | 0, d, m, _, h, _ => by omega
  | f + 1, d, m, h0, h1, h2 => by
    intro y y0 y1 y2
    unfold psh at h2
    rw [if_pos (by omega)] at h2
    by_cases e : lo d = lo p
    · rw [if_pos e] at h2
      by_cases b : byd S P d (pl d + n * pof P up dn p d) = true
      · rw [if_pos b] at h2; omega
      · rw [if_neg b] at h2
        by_cases q : y = d
        · subst q; simpa using b
        · exact psh_ok f (d + 1) (m + 1) (by omega) (by omega) h2 y (by omega) y1 y2
    · rw [if_neg e] at h2
      by_cases q : y = d
      · subst q; exact absurd y2 e
      · exact psh_ok f (d + 1) m (by omega) (by omega) h2 y (by omega) y1 y2
theorem push_ok {S lo up dn lk pl : Int → Int} {P p n : Int} (hS : S 0 ≤ 12) (h : 0 < pushR S lo up dn lk pl P p n) : lk p ≠ 1 ∧ ∀ y, 0 ≤ y → y < S 0 → lo y = lo p → byd S P y (pl y + n * pof P up dn p y) = false := by
  unfold pushR at h
  by_cases e : zbit (S 2) p = 1
  · rw [if_pos e] at h; omega
  · rw [if_neg e] at h
    by_cases k : lk p = 1
    · rw [if_pos k] at h; omega
    · rw [if_neg k] at h
      exact ⟨k, fun y y0 y1 y2 => psh_ok 13 0 0 (by decide) (by omega) (by omega) y y0 y1 y2⟩
theorem SB_trn {S lo up dn pl : Int → Int} {p n : Int} (h : SB S pl) (ok : ∀ y, 0 ≤ y → y < S 0 → lo y = lo p → byd S (pts S) y (pl y + n * pof (pts S) up dn p y) = false) : SB S (trn S lo up dn pl (pts S) p n) := by
  intro d d0 d1 d2
  unfold trn
  by_cases e : lo d = lo p
  · rw [if_pos ⟨d0, d1, e⟩]
    have := ok d d0 d1 e
    unfold byd at this
    have := of_decide_eq_false this
    omega
  · rw [if_neg (fun q => e q.2.2)]
    exact h d d0 d1 d2
theorem PBK_trn {S lo up dn lk pl : Int → Int} {p n K : Int} (hS : StrOK S) (hH : Hung S 0 lo up dn lk) (hp : 0 ≤ p ∧ p < S 0) (hn : -60 ≤ n ∧ n ≤ 60) (h : ∀ d, 0 ≤ d → d < 12 → -K ≤ pl d ∧ pl d ≤ K) : ∀ d, 0 ≤ d → d < 12 → -(K + 2799360000000) ≤ trn S lo up dn pl (pts S) p n d ∧ trn S lo up dn pl (pts S) p n d ≤ K + 2799360000000 := by
  intro d d0 d1
  have := h d d0 d1
  unfold trn
  by_cases e : 0 ≤ d ∧ d < S 0 ∧ lo d = lo p
  · rw [if_pos e]
    have ps := (pof_spec hS hH.1 hp ⟨d0, e.2.1⟩ (Hung_lo hH ⟨d0, e.2.1⟩).1 e.2.2.symm).2.2.2.1
    have m := mul_bd hn ps
    omega
  · rw [if_neg e]; omega
theorem dp_iff {a : Int} {k : Nat} (h : 0 ≤ a) : a / 2 ^ k = 0 ↔ a < 2 ^ k := by
  have hp : (0 : Int) < 2 ^ k := Int.pow_pos (by decide)
  constructor
  · intro q
    have h1 := Int.emod_add_mul_ediv a (2 ^ k)
    have h2 := Int.emod_lt_of_pos a hp
    rw [q] at h1
    omega
  · intro q; exact Int.ediv_eq_zero_of_lt h q
theorem dp_32 {a : Int} {k : Nat} (h : 0 ≤ a) (h2 : i32 a) : i32 (a / 2 ^ k) := by
  have hp : (0 : Int) < 2 ^ k := Int.pow_pos (by decide)
  have h1 := Int.ediv_nonneg h (show (0 : Int) ≤ 2 ^ k by omega)
  have h3 := Int.ediv_le_self (2 ^ k) h
  exact ⟨by omega, by have := h2.2; omega⟩
theorem p2_32 {d : Int} (h : d ≤ 12) : i32 (2 ^ d.toNat) ∧ (0 : Int) < 2 ^ d.toNat ∧ (2 : Int) ^ d.toNat ≤ 4096 := by
  have h1 : (2 : Int) ^ d.toNat ≤ 2 ^ 12 := ipow_le (c := 2) (by decide) (by omega)
  have hp : (0 : Int) < 2 ^ d.toNat := Int.pow_pos (by decide)
  have e : (2 : Int) ^ 12 = 4096 := by decide
  exact ⟨⟨by omega, by omega⟩, hp, by omega⟩
/-- one door stands elsewhere -/
theorem GX.slip {μ : Mem} {S lo up dn lk pl : Int → Int} (h : GX μ S lo up dn lk pl) {d s x : Int} (hd : 0 ≤ d ∧ d < S 0) (hs : s * pts S = x * μ 63 d) (hb : PB (fset pl d x)) : GX (mset μ 9 d s) S lo up dn lk (fset pl d x) := by
  obtain ⟨hS, hT, hH, hF, hp, hb0⟩ := h
  have r : ∀ c, c ≠ 9 → mset μ 9 d s c = μ c := fun c h => mset_nc _ _ _ _ _ h
  refine ⟨hS, ?_, hH, ?_, ?_, hb⟩
  · unfold GT GS
    rw [r 3 (by decide), r 4 (by decide), r 5 (by decide), r 6 (by decide), r 7 (by decide), r 8 (by decide)]
    exact hT
  · unfold GF
    rw [r 59 (by decide), r 60 (by decide), r 63 (by decide), r 64 (by decide)]
    exact hF
  · intro y y0 y1
    by_cases e : y = d
    · subst e
      rw [mset_same, fset_same, ← hF.2.2.2.1 y y0 y1]; exact hs
    · rw [mset_ne _ _ _ _ _ e, fset_ne _ e]; exact hp y y0 y1
/-- a ratio by the class's numbers -/
theorem GX.ratq {μ : Mem} {S lo up dn lk pl : Int → Int} (h : GX μ S lo up dn lk pl) {p d part : Int} (p1 : 0 ≤ p ∧ p < S 0) (d1 : 0 ≤ d ∧ d < S 0) (he : lo d = lo p) (hk : lk p = 0) (hq : part = 0 ∨ part = 1) : lw (μ 64 (p * 12 + d)) (μ 63 d) part = rat up dn p d part := by
  obtain ⟨hS, hT, hH, hF, hp, hb⟩ := h
  have hk2 : lk d = 0 := by rw [← lk_alike hH p1 d1 he.symm]; exact hk
  have e := hF.2.2.2.2 p d p1.1 p1.2 d1.1 d1.2
  rw [if_pos ⟨he.symm, hk2⟩] at e
  rw [e, hF.2.2.2.1 d d1.1 d1.2]
  have b := bel_spec (lk := lk) hS hH.1 d1
  obtain ⟨-, -, -, -, b1, -⟩ := id hH.1
  have lp := Hung_lo hH p1
  have ld := Hung_lo hH d1
  have bp := b1 p p1.1 p1.2 lp.1
  have bd := b1 d d1.1 d1.2 ld.1
  obtain ⟨u1, u2, u3, u4⟩ := rat_spec (p := p) (d := d) bd.2.1 bp.2.1 bd.1 bp.1
  obtain ⟨x, hx⟩ := b.2.2 p p1.1 p1.2 he.symm hk2
  unfold stp
  generalize bel S lo up dn lk d = B at *
  have e0 : lw (rat up dn p d 0 * B.tdiv (rat up dn p d 1)) B part = lw (rat up dn p d 0) (rat up dn p d 1) part := by
    refine lw_eq b.1.1 u1 ?_
    rw [hx, tdiv_mul (by omega)]; grind
  rw [e0]
  rcases hq with q | q
  · rw [q, lw_0, u3]; simp
  · rw [q, lw_1, u3]; simp
