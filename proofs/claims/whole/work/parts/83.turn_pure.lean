/-! how far the least door of a set has turned: pure -/
theorem stp_key {S lo up dn lk : Int → Int} (hS : StrOK S) (hH : Hung S 0 lo up dn lk) {p d : Int} (p1 : 0 ≤ p ∧ p < S 0) (d1 : 0 ≤ d ∧ d < S 0) (he : lo p = lo d) (hk : lk d = 0) : stp S lo up dn lk p d * (dn d * up p) = bel S lo up dn lk d * (up d * dn p) := by
  obtain ⟨-, a2, -, -, b1, -⟩ := id hH.1
  have bp := b1 p p1.1 p1.2 (a2 p p1.1 p1.2 p1.2)
  have bd := b1 d d1.1 d1.2 (a2 d d1.1 d1.2 d1.2)
  obtain ⟨u1, u2, u3, u4⟩ := rat_spec (p := p) (d := d) bd.2.1 bp.2.1 bd.1 bp.1
  obtain ⟨t, ht⟩ := (bel_spec (lk := lk) hS hH.1 d1).2.2 p p1.1 p1.2 he hk
  unfold stp
  rw [ht, tdiv_mul (by omega)]
  generalize rat up dn p d 0 = N at *
  generalize rat up dn p d 1 = U at *
  grind
theorem stp_mul {S lo up dn lk : Int → Int} (hS : StrOK S) (hH : Hung S 0 lo up dn lk) {l d x : Int} (hl : 0 ≤ l ∧ l < S 0) (ll : lo l = l) (hd : 0 ≤ d ∧ d < S 0) (dl : lo d = l) (hx : 0 ≤ x ∧ x < S 0) (xl : lo x = l) (kl : lk l = 0) (kx : lk x = 0) : stp S lo up dn lk d l * stp S lo up dn lk l x = stp S lo up dn lk d x * bel S lo up dn lk l := by
  obtain ⟨-, a2, -, -, b1, -⟩ := id hH.1
  have bd := b1 d hd.1 hd.2 (a2 d hd.1 hd.2 hd.2)
  have bx := b1 x hx.1 hx.2 (a2 x hx.1 hx.2 hx.2)
  have el := (b1 l hl.1 hl.2 (a2 l hl.1 hl.2 hl.2)).2.2.2 ll
  have k1 := stp_key hS hH hd hl (by omega) kl
  have k2 := stp_key hS hH hl hx (by omega) kx
  have k3 := stp_key hS hH hd hx (by omega) kx
  rw [el.1, el.2] at k1 k2
  apply cancel (c := dn x * up d) (Int.mul_ne_zero (by omega) bd.2.1)
  generalize stp S lo up dn lk d l = A at *
  generalize stp S lo up dn lk l x = B at *
  generalize stp S lo up dn lk d x = C at *
  generalize bel S lo up dn lk l = M at *
  generalize bel S lo up dn lk x = N at *
  have e1 : A * up d = M * dn d := by grind
  have e2 : B * dn x = N * up x := by grind
  calc A * B * (dn x * up d) = (A * up d) * (B * dn x) := by grind
    _ = (M * dn d) * (N * up x) := by rw [e1, e2]
    _ = M * (N * (up x * dn d)) := by grind
    _ = M * (C * (dn x * up d)) := by rw [k3]
    _ = C * M * (dn x * up d) := by grind
theorem stp_pof {S lo up dn lk : Int → Int} (hS : StrOK S) (hH : Hung S 0 lo up dn lk) {l d c : Int} (hl : 0 ≤ l ∧ l < S 0) (hd : 0 ≤ d ∧ d < S 0) (dl : lo d = lo l) (kl : lk l = 0) (hc : c * bel S lo up dn lk l = pts S) : pof (pts S) up dn d l = c * stp S lo up dn lk d l := by
  obtain ⟨-, a2, -, -, b1, -⟩ := id hH.1
  have bd := b1 d hd.1 hd.2 (a2 d hd.1 hd.2 hd.2)
  have bl := b1 l hl.1 hl.2 (a2 l hl.1 hl.2 hl.2)
  have k1 := stp_key hS hH hd hl dl kl
  obtain ⟨u1, u2, u3, u4⟩ := rat_spec (p := d) (d := l) bl.2.1 bd.2.1 bl.1 bd.1
  obtain ⟨-, -, ⟨t, ht⟩, -, -⟩ := pof_spec hS hH.1 hd hl (a2 l hl.1 hl.2 hl.2) dl
  have k2 : pof (pts S) up dn d l * (dn l * up d) = pts S * (up l * dn d) := by
    unfold pof
    rw [ht, tdiv_mul (by omega)]
    generalize rat up dn d l 0 = N at *
    generalize rat up dn d l 1 = U at *
    grind
  apply cancel (c := dn l * up d) (Int.mul_ne_zero (by omega) bd.2.1)
  rw [k2, Int.mul_assoc, k1, ← hc, Int.mul_assoc]
/-- every door of the set bears the turn t of its least -/
def TR (S lo up dn lk : Int → Int) (l s t : Int) : Prop := ∀ x, 0 ≤ x → x < S 0 → lo x = l → ∃ w : Int, t * stp S lo up dn lk l x = w * bel S lo up dn lk l ∧ -(s * 12960000) ≤ w ∧ w ≤ s * 12960000
theorem TR_0 {S lo up dn lk : Int → Int} {l : Int} : TR S lo up dn lk l 0 0 := fun x _ _ _ => ⟨0, by rw [Int.zero_mul, Int.zero_mul], by decide, by decide⟩
theorem TR.mono {S lo up dn lk : Int → Int} {l s s' t : Int} (h : TR S lo up dn lk l s t) (hs : s ≤ s') : TR S lo up dn lk l s' t := fun x x0 x1 x2 => by
  obtain ⟨c, e, h1, h2⟩ := h x x0 x1 x2
  exact ⟨c, e, by omega, by omega⟩
/-- the turn in parts of each door -/
theorem TR.pl {S lo up dn lk : Int → Int} (hS : StrOK S) (hH : Hung S 0 lo up dn lk) {l s t c s' x w : Int} (hl : 0 ≤ l ∧ l < S 0) (ll : lo l = l) (kx : lk x = 0) (hx : 0 ≤ x ∧ x < S 0) (xl : lo x = l) (hc : c * bel S lo up dn lk l = pts S) (hR : RB S lo up dn l s' (c * t)) (hw : t * stp S lo up dn lk l x = w * bel S lo up dn lk l) : w * pts S = (c * t).tdiv (dn x) * up x * bel S lo up dn lk x := by
  obtain ⟨-, a2, -, -, b1, -⟩ := id hH.1
  have bx := b1 x hx.1 hx.2 (a2 x hx.1 hx.2 hx.2)
  have el := (b1 l hl.1 hl.2 (a2 l hl.1 hl.2 hl.2)).2.2.2 ll
  have k2 := stp_key hS hH hl hx (by omega) kx
  have v := (hR.at hS hH hx xl).1
  rw [el.1, el.2] at k2
  apply cancel (c := dn x) (by omega)
  generalize (c * t).tdiv (dn x) * up x = V at *
  generalize stp S lo up dn lk l x = B at *
  generalize bel S lo up dn lk l = M at *
  generalize bel S lo up dn lk x = N at *
  have e2 : B * dn x = N * up x := by grind
  calc w * pts S * dn x = c * (w * M) * dn x := by rw [← hc]; grind
    _ = c * t * (B * dn x) := by rw [← hw]; grind
    _ = (c * t * up x) * N := by rw [e2]; grind
    _ = V * dn x * N := by rw [v]
    _ = V * N * dn x := by grind
theorem TR.add {S lo up dn lk : Int → Int} (hS : StrOK S) (hH : Hung S 0 lo up dn lk) {l d s t n : Int} (hl : 0 ≤ l ∧ l < S 0) (ll : lo l = l) (hd : 0 ≤ d ∧ d < S 0) (dl : lo d = l) (kl : ∀ x, 0 ≤ x → x < S 0 → lo x = l → lk x = 0) (hn : -60 ≤ n ∧ n ≤ 60) (h : TR S lo up dn lk l s t) : TR S lo up dn lk l (s + 1) (t + n * stp S lo up dn lk d l) := by
  intro x x0 x1 x2
  obtain ⟨w, e, h1, h2⟩ := h x x0 x1 x2
  have k := stp_mul hS hH hl ll hd dl ⟨x0, x1⟩ x2 (kl l hl.1 hl.2 ll) (kl x x0 x1 x2)
  have ps := (stp_spec hS hH.1 hd ⟨x0, x1⟩ (show lo d = lo x by omega) (kl x x0 x1 x2)).2.1
  have m := mul_bd hn ps
  refine ⟨w + n * stp S lo up dn lk d x, ?_, by omega, by omega⟩
  rw [Int.add_mul, Int.add_mul, e, Int.mul_assoc, k, Int.mul_assoc]
theorem stp_self {S lo up dn lk : Int → Int} (hS : StrOK S) (hH : Hung S 0 lo up dn lk) {l : Int} (hl : 0 ≤ l ∧ l < S 0) (ll : lo l = l) (kl : lk l = 0) : stp S lo up dn lk l l = bel S lo up dn lk l := by
  obtain ⟨-, a2, -, -, b1, -⟩ := id hH.1
  have el := (b1 l hl.1 hl.2 (a2 l hl.1 hl.2 hl.2)).2.2.2 ll
  have k := stp_key hS hH hl hl rfl kl
  rw [el.1, el.2, Int.mul_one, Int.mul_one, Int.mul_one] at k
  exact k
theorem TR.self {S lo up dn lk : Int → Int} (hS : StrOK S) (hH : Hung S 0 lo up dn lk) {l s t : Int} (h : TR S lo up dn lk l s t) (hl : 0 ≤ l ∧ l < S 0) (ll : lo l = l) (kl : lk l = 0) : -(s * 12960000) ≤ t ∧ t ≤ s * 12960000 := by
  obtain ⟨w, e, h1, h2⟩ := h l hl.1 hl.2 ll
  have b := (bel_spec (lk := lk) hS hH.1 hl).1
  rw [stp_self hS hH hl ll kl] at e
  have e2 := cancel (c := bel S lo up dn lk l) (by omega) e
  omega
