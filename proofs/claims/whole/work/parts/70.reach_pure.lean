/-! how far a set has turned: numbers that every door of it bears -/
def plc (up dn pl : Int → Int) (x b : Int) : Int := pl x + b.tdiv (dn x) * up x
def RB (S lo up dn : Int → Int) (l : Int) (s : Int) (b : Int) : Prop := ∀ x, 0 ≤ x → x < S 0 → lo x = l → ∃ c : Int, b * up x = c * dn x ∧ -(s * 2799360000000) ≤ c ∧ c ≤ s * 2799360000000
theorem RB.mono {S lo up dn : Int → Int} {l s s' b : Int} (h : RB S lo up dn l s b) (hs : s ≤ s') : RB S lo up dn l s' b := fun x x0 x1 x2 => by
  obtain ⟨c, e, h1, h2⟩ := h x x0 x1 x2
  exact ⟨c, e, by omega, by omega⟩
theorem RB_0 {S lo up dn : Int → Int} {l : Int} : RB S lo up dn l 0 0 := fun x _ _ _ => ⟨0, by rw [Int.zero_mul, Int.zero_mul], by decide, by decide⟩
/-- a push of d in parts of every door: its numbers agree -/
theorem pof_al {S : Int → Int} {lo up dn lk : Int → Int} (hS : StrOK S) (hH : Hung S 0 lo up dn lk) {l d x : Int} (hl : 0 ≤ l ∧ l < S 0) (ll : lo l = l) (hd : 0 ≤ d ∧ d < S 0) (dl : lo d = l) (hx : 0 ≤ x ∧ x < S 0) (xl : lo x = l) : pof (pts S) up dn d l * up x = pof (pts S) up dn d x * dn x := by
  obtain ⟨-, -, -, -, b1, -⟩ := id hH.1
  have bd := b1 d hd.1 hd.2 (by omega)
  have bx := b1 x hx.1 hx.2 (by omega)
  have bl := b1 l hl.1 hl.2 (by omega)
  have el := bl.2.2.2 ll
  have key : ∀ y, 0 ≤ y → y < S 0 → lo y = l → pof (pts S) up dn d y * (dn y * up d) = pts S * (up y * dn d) := fun y y0 y1 y2 => by
    have by_ := b1 y y0 y1 (by omega)
    obtain ⟨u1, u2, u3, u4⟩ := rat_spec (p := d) (d := y) by_.2.1 bd.2.1 by_.1 bd.1
    obtain ⟨-, -, ⟨t, ht⟩, -, -⟩ := pof_spec hS hH.1 hd ⟨y0, y1⟩ (by omega) (show lo d = lo y by omega)
    unfold pof
    rw [ht, tdiv_mul (by omega)]
    generalize rat up dn d y 0 = N at *
    generalize rat up dn d y 1 = U at *
    grind
  have k1 := key x hx.1 hx.2 xl
  have k2 := key l hl.1 hl.2 ll
  rw [el.1, el.2] at k2
  apply cancel (c := up d) bd.2.1
  grind
theorem RB.add {S : Int → Int} {lo up dn lk : Int → Int} (hS : StrOK S) (hH : Hung S 0 lo up dn lk) {l d s b n : Int} (hl : 0 ≤ l ∧ l < S 0) (ll : lo l = l) (hd : 0 ≤ d ∧ d < S 0) (dl : lo d = l) (hn : -60 ≤ n ∧ n ≤ 60) (h : RB S lo up dn l s b) : RB S lo up dn l (s + 1) (b + n * pof (pts S) up dn d l) := by
  intro x x0 x1 x2
  obtain ⟨c, e, h1, h2⟩ := h x x0 x1 x2
  have k := pof_al hS hH hl ll hd dl ⟨x0, x1⟩ x2
  have ps := (pof_spec hS hH.1 hd ⟨x0, x1⟩ (by omega) (show lo d = lo x by omega)).2.2.2.1
  have m := mul_bd hn ps
  refine ⟨c + n * pof (pts S) up dn d x, by grind, by omega, by omega⟩
theorem RB.at {S : Int → Int} {lo up dn lk : Int → Int} (hS : StrOK S) (hH : Hung S 0 lo up dn lk) {l s b x : Int} (h : RB S lo up dn l s b) (hx : 0 ≤ x ∧ x < S 0) (xl : lo x = l) : b.tdiv (dn x) * up x * dn x = b * up x ∧ (-(s * 2799360000000) ≤ b.tdiv (dn x) * up x ∧ b.tdiv (dn x) * up x ≤ s * 2799360000000) := by
  obtain ⟨-, a2, -, -, b1, -⟩ := id hH.1
  have bx := b1 x hx.1 hx.2 (a2 x hx.1 hx.2 hx.2)
  obtain ⟨c, e, h1, h2⟩ := h x hx.1 hx.2 xl
  obtain ⟨q, hq⟩ := cop_dvd bx.2.2.1 (show dn x ∣ b * up x from ⟨c, by rw [e, Int.mul_comm]⟩)
  have e1 : b.tdiv (dn x) = q := by rw [hq]; exact tdiv_mul (by omega)
  have e2 : q * up x = c := by
    apply cancel (c := dn x) (by omega)
    rw [← e, hq]; grind
  rw [e1, e2]
  exact ⟨e.symm, h1, h2⟩
theorem RB.self {S : Int → Int} {lo up dn lk : Int → Int} (hH : Hung S 0 lo up dn lk) {l s b : Int} (h : RB S lo up dn l s b) (hl : 0 ≤ l ∧ l < S 0) (ll : lo l = l) : -(s * 2799360000000) ≤ b ∧ b ≤ s * 2799360000000 := by
  obtain ⟨-, -, -, -, b1, -⟩ := id hH.1
  have el := (b1 l hl.1 hl.2 (by omega)).2.2.2 ll
  obtain ⟨c, e, h1, h2⟩ := h l hl.1 hl.2 ll
  rw [el.1, el.2, Int.mul_one, Int.mul_one] at e
  rw [e]; exact ⟨h1, h2⟩
/-- may a set stand so; is it as wanted -/
def std (S : Int → Int) (lo up dn pl : Int → Int) (l wt b : Int) : Prop := ∀ x, 0 ≤ x → x < S 0 → lo x = l → byd S (pts S) x (plc up dn pl x b) = false ∧ (zbit wt x = 1 → opn S (pts S) x (plc up dn pl x b) = false)
def wtd (S : Int → Int) (lo up dn pl : Int → Int) (l b : Int) : Prop := ∀ x, 0 ≤ x → x < S 0 → lo x = l → (zbit (S 3) x = 1 → opn S (pts S) x (plc up dn pl x b) = true) ∧ (zbit (S 4) x = 1 → opn S (pts S) x (plc up dn pl x b) = false)
noncomputable def stdB (S : Int → Int) (lo up dn pl : Int → Int) (l wt b : Int) : Bool := @decide (std S lo up dn pl l wt b) (Classical.propDecidable _)
noncomputable def wtdB (S : Int → Int) (lo up dn pl : Int → Int) (l b : Int) : Bool := @decide (wtd S lo up dn pl l b) (Classical.propDecidable _)
theorem stdB_t {S : Int → Int} {lo up dn pl : Int → Int} {l wt b : Int} : stdB S lo up dn pl l wt b = true ↔ std S lo up dn pl l wt b := by unfold stdB; exact @decide_eq_true_iff _ (Classical.propDecidable _)
theorem wtdB_t {S : Int → Int} {lo up dn pl : Int → Int} {l b : Int} : wtdB S lo up dn pl l b = true ↔ wtd S lo up dn pl l b := by unfold wtdB; exact @decide_eq_true_iff _ (Classical.propDecidable _)
theorem bool_f {b : Bool} (h : ¬ b = true) : b = false := by cases b <;> simp_all
