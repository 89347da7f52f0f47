/-! what a turn does, in the class and in the reference -/
section TURN
variable {μ : Mem} {S lo up dn lk pl : Int → Int} {l tc wt wo ws wa pu a b c t s s' : Int}
def Vof (up dn : Int → Int) (b x : Int) : Int := b.tdiv (dn x) * up x
theorem stp_of (h : GX μ S lo up dn lk pl) {p d : Int} (p1 : 0 ≤ p ∧ p < S 0) (d1 : 0 ≤ d ∧ d < S 0) (he : lo p = lo d) (hk : lk d = 0) : μ 64 (p * 12 + d) = stp S lo up dn lk p d := by
  have q := h.2.2.2.1.2.2.2.2 p d p1.1 p1.2 d1.1 d1.2
  rw [if_pos ⟨he, hk⟩] at q
  exact q
theorem bel_of (h : GX μ S lo up dn lk pl) {d : Int} (d1 : 0 ≤ d ∧ d < S 0) : μ 63 d = bel S lo up dn lk d := h.2.2.2.1.2.2.2.1 d d1.1 d1.2
theorem BHD_of (h : GX μ S lo up dn lk pl) (hl : 0 ≤ l ∧ l < S 0 ∧ lo l = l) (kl : ∀ x, 0 ≤ x → x < S 0 → lo x = l → lk x = 0) (hc : c * bel S lo up dn lk l = pts S) (hT : TR S lo up dn lk l s t) (hs : s ≤ 2001) (hR : RB S lo up dn l s' (c * t)) : BHD μ S lo l t (Vof up dn (c * t)) := by
  intro x x0 x1 x2
  obtain ⟨w, w1, w2, w3⟩ := hT x x0 x1 x2
  have l1 : 0 ≤ l ∧ l < S 0 := ⟨hl.1, hl.2.1⟩
  have k := TR.pl (s := 0) h.1 h.2.2.1 l1 hl.2.2 (kl x x0 x1 x2) ⟨x0, x1⟩ x2 hc hR w1
  refine ⟨w, ?_, by omega, ?_⟩
  · rw [stp_of h l1 ⟨x0, x1⟩ (by omega) (kl x x0 x1 x2), bel_of h l1]; exact w1
  · rw [bel_of h ⟨x0, x1⟩]; exact k
theorem BHD_0 : BHD μ S lo l 0 (fun _ => 0) := fun x _ _ _ => ⟨0, by rw [Int.zero_mul, Int.zero_mul], by decide, by rw [Int.zero_mul, Int.zero_mul]⟩
/-- beyond, in the class's numbers -/
theorem byd_BN (h : GX μ S lo up dn lk pl) (hl : 0 ≤ l ∧ l < S 0) {x V w : Int} (hx : 0 ≤ x ∧ x < S 0) (w1 : t * μ 64 (l * 12 + x) = w * μ 63 l) (w3 : w * pts S = V * μ 63 x) : byd S (pts S) x (pl x + V) = false ↔ (0 < spn S x → BN1 (μ 9) (μ 63) (μ 64) S l x t) := by
  obtain ⟨z0, z1, z2, z3, z4, z5, z6, z7⟩ := h.z
  obtain ⟨dt, dsp, tr, sr, br, bp, sc, lr, lq, mr, pr, kr, zk⟩ := h.d hx
  have bl := (h.d hl).2.2.2.2.1
  have e : (μ 9 x + w) * pts S = (pl x + V) * μ 63 x := by rw [Int.add_mul, Int.add_mul, sc, w3]
  rw [← byd_sc (by omega) br.1 e]
  unfold byd BN1
  rw [w1, ← Int.add_mul, decide_eq_false_iff_not]
  have m1 := ml_le (a := 0) (b := μ 9 x + w) bl.1
  have m2 := ml_le (a := μ 9 x + w) (b := spn S x * μ 63 x) bl.1
  rw [Int.zero_mul] at m1
  rw [m1, m2]
  constructor
  · intro q r
    refine ⟨?_, ?_⟩ <;> omega
  · rintro q ⟨r, s⟩
    have := q r
    omega
theorem std_D (h : GX μ S lo up dn lk pl) (hC : CHO μ S lo lk l tc wt wo ws wa pu a b) (hl : 0 ≤ l ∧ l < S 0 ∧ lo l = l) (kl : ∀ x, 0 ≤ x → x < S 0 → lo x = l → lk x = 0) (hB : BHD μ S lo l t (Vof up dn (c * t))) (ht : -1152921504606846976 ≤ t ∧ t ≤ 1152921504606846976) : std S lo up dn pl l wt (c * t) ↔ (a ≤ t ∧ t ≤ b) ∧ ¬ WO S pl (Vof up dn (c * t)) wa := by
  obtain ⟨-, -, hz, -, -, -, -, hb⟩ := hC
  have l1 : 0 ≤ l ∧ l < S 0 := ⟨hl.1, hl.2.1⟩
  rw [hb t ht.1 ht.2]
  constructor
  · intro q
    refine ⟨fun x x0 x1 x2 x3 x4 => ?_, ?_⟩
    · obtain ⟨w, w1, w2, w3⟩ := hB x x0 x1 x2
      exact (byd_BN h l1 ⟨x0, x1⟩ w1 w3).mp (q x x0 x1 x2).1 x3
    · rintro ⟨x, x0, x1, x2, x3⟩
      have r := ((hz x x0).2.2).mp x2
      have := (q x x0 x1 r.1.2).2 r.2
      rw [show plc up dn pl x (c * t) = pl x + Vof up dn (c * t) x from rfl, x3] at this
      exact absurd this (by decide)
  · rintro ⟨q, r⟩ x x0 x1 x2
    refine ⟨?_, fun x3 => bool_f (fun x4 => r ⟨x, x0, x1, ((hz x x0).2.2).mpr ⟨⟨x1, x2⟩, x3⟩, x4⟩)⟩
    obtain ⟨w, w1, w2, w3⟩ := hB x x0 x1 x2
    refine (byd_BN h l1 ⟨x0, x1⟩ w1 w3).mpr (fun x3 => q x x0 x1 x2 x3 ?_)
    have := (h.st l1 ⟨x0, x1⟩ (by omega) (kl l l1.1 l1.2 hl.2.2)).2.2.2
    exact this
theorem wtd_D {V : Int → Int} {b' : Int} (hC : CHO μ S lo lk l tc wt wo ws wa pu a b) (hV : ∀ x, 0 ≤ x → x < S 0 → lo x = l → plc up dn pl x b' = pl x + V x) : wtd S lo up dn pl l b' ↔ WA S pl V wo ws := by
  obtain ⟨-, -, hz, -⟩ := hC
  constructor
  · intro q x x0 x1
    refine ⟨fun r => ?_, fun r => ?_⟩
    · have r2 := ((hz x x0).1).mp r
      rw [← hV x x0 x1 r2.1.2]
      exact (q x x0 x1 r2.1.2).1 r2.2
    · have r2 := ((hz x x0).2.1).mp r
      rw [← hV x x0 x1 r2.1.2]
      exact (q x x0 x1 r2.1.2).2 r2.2
  · intro q x x0 x1 x2
    rw [hV x x0 x1 x2]
    exact ⟨fun r => (q x x0 x1).1 (((hz x x0).1).mpr ⟨⟨x1, x2⟩, r⟩), fun r => (q x x0 x1).2 (((hz x x0).2.1).mpr ⟨⟨x1, x2⟩, r⟩)⟩
/-- the planner's search writes here -/
abbrev Wsd (c : Nat) (i : Int) : Prop := (75 ≤ c ∧ c ≤ 78) ∨ (c = 74 ∧ (i = 6 ∨ i = 7))
theorem GX.sd {ν : Mem} (h : GX μ S lo up dn lk pl) (f : Fr Wsd μ ν) : GX ν S lo up dn lk pl := h.fr f (fun c i q => by unfold gxc at q; unfold Wsd; omega)
theorem CHO.sd {ν : Mem} (h : CHO μ S lo lk l tc wt wo ws wa pu a b) (f : Fr Wsd μ ν) : CHO ν S lo lk l tc wt wo ws wa pu a b := by
  have r9 : ν 9 = μ 9 := f.row (fun i q => by unfold Wsd at q; omega)
  have r63 : ν 63 = μ 63 := f.row (fun i q => by unfold Wsd at q; omega)
  have r64 : ν 64 = μ 64 := f.row (fun i q => by unfold Wsd at q; omega)
  unfold CHO PAL at *
  rw [r9, r63, r64, f 74 9 (by unfold Wsd; omega), f 74 10 (by unfold Wsd; omega), f 74 11 (by unfold Wsd; omega), f 74 12 (by unfold Wsd; omega), f 74 13 (by unfold Wsd; omega), f 74 14 (by unfold Wsd; omega), f 74 15 (by unfold Wsd; omega)]
  exact h
def bsD (μ : Mem) : BS := (μ 75, μ 76, μ 77, μ 74 6)
/-- the states that the class has -/
def SID (μ : Mem) (S lo up dn lk : Int → Int) (l c : Int) : Prop := HTB 4096 (μ 78) (μ 75) hD (μ 74 6) ∧ (1 ≤ μ 74 6 ∧ μ 74 6 ≤ 2000) ∧ ∀ s, 0 ≤ s → s < μ 74 6 → TR S lo up dn lk l s (μ 75 s) ∧ RB S lo up dn l s (c * μ 75 s)
end TURN
