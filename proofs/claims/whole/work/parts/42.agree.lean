/-! what hangs on the street alone: rows that agree where the street stands -/
abbrev sti (i : Int) : Prop := (0 ≤ i ∧ i ≤ 2) ∨ (10 ≤ i ∧ i ≤ 81)
def AG (S T : Int → Int) : Prop := ∀ i, sti i → T i = S i
theorem AG.symm {S T : Int → Int} (h : AG S T) : AG T S := fun i q => (h i q).symm
theorem AG.a0 {S T : Int → Int} (h : AG S T) : T 0 = S 0 := h 0 (by unfold sti; omega)
theorem AG.a1 {S T : Int → Int} (h : AG S T) : T 1 = S 1 := h 1 (by unfold sti; omega)
theorem AG.a2 {S T : Int → Int} (h : AG S T) : T 2 = S 2 := h 2 (by unfold sti; omega)
theorem AG.qtee {S T : Int → Int} (h : AG S T) {d : Int} (h0 : 0 ≤ d) (h1 : d < 12) : tee T d = tee S d := h _ (by unfold sti; omega)
theorem AG.qspn {S T : Int → Int} (h : AG S T) {d : Int} (h0 : 0 ≤ d) (h1 : d < 12) : spn T d = spn S d := h _ (by unfold sti; omega)
theorem AG.qjn {S T : Int → Int} (h : AG S T) {j w : Int} (h0 : 0 ≤ j) (h1 : j < 16) (w0 : 0 ≤ w) (w1 : w ≤ 2) : jn T j w = jn S j w := h _ (by unfold sti; omega)
theorem AG.qaxl {S T : Int → Int} (h : AG S T) {j : Nat} (h1 : j < 16) : axl T j = axl S j := by
  unfold axl
  rw [h.qjn (by omega) (by omega) (by decide) (by decide)]
theorem AG.str {S T : Int → Int} (h : AG S T) (hS : StrOK S) : StrOK T := by
  obtain ⟨h0, h1, h2, h3, h4⟩ := hS
  unfold StrOK
  rw [h.a0, h.a1]
  refine ⟨h0, h1, fun d d0 d1 => ?_, fun j j0 j1 => ?_, ?_⟩
  · rw [h.qtee d0 (by omega), h.qspn d0 (by omega)]; exact h2 d d0 d1
  · rw [h.qjn j0 (by omega) (by decide) (by decide), h.qjn j0 (by omega) (by decide) (by decide), h.qjn j0 (by omega) (by decide) (by decide)]; exact h3 j j0 j1
  · rw [cntB_congr (p := axl T) (q := axl S) _ (fun j hj => h.qaxl (by omega))]; exact h4
theorem AG.qact {S T : Int → Int} (h : AG S T) {w j : Int} : act T w j ↔ act S w j := by unfold act; rw [h.a1]
theorem AG.qcompat {S T : Int → Int} (h : AG S T) (hS : StrOK S) {w j : Int} {p q : Int → Int} (hj : act S w j) : compat T p q j ↔ compat S p q j := by
  obtain ⟨r0, r1, -, -⟩ := act_rng hS hj
  have h0 := hS.1
  have h1 := hS.2.1
  have j0 := hj.1
  have j1 := hj.2.1
  have e0 := h.qjn (j := j) (w := 0) j0 (by omega) (by decide) (by decide)
  have e1 := h.qjn (j := j) (w := 1) j0 (by omega) (by decide) (by decide)
  have e2 := h.qjn (j := j) (w := 2) j0 (by omega) (by decide) (by decide)
  unfold compat blw abv
  rw [e0, e1, e2, h.qtee r0.1 (by omega), h.qtee r1.1 (by omega)]
theorem AG.qlab {S T : Int → Int} (h : AG S T) (hS : StrOK S) {w : Int} {f : Int → Int} : lab T w f ↔ lab S w f := by
  have h1 := hS.2.1
  constructor
  · intro q j hj
    have := q j (h.qact.mpr hj)
    have j0 := hj.1
    have j1 := hj.2.1
    rw [h.qjn j0 (by omega) (by decide) (by decide), h.qjn j0 (by omega) (by decide) (by decide)] at this
    exact this
  · intro q j hj
    have hj := h.qact.mp hj
    have j0 := hj.1
    have j1 := hj.2.1
    rw [h.qjn j0 (by omega) (by decide) (by decide), h.qjn j0 (by omega) (by decide) (by decide)]
    exact q j hj
theorem AG.cn {S T : Int → Int} (h : AG S T) (hS : StrOK S) {w x r : Int} : Cn T w x r ↔ Cn S w x r :=
  ⟨fun q f hf => q f ((h.qlab hS).mpr hf), fun q f hf => q f ((h.qlab hS).mp hf)⟩
theorem AG.qaxp {S T : Int → Int} (h : AG S T) (hS : StrOK S) {u : Nat → Bool} {j : Nat} (hj : (j : Int) < S 1) : axp T u j = axp S u j := by
  have h0 := hS.1
  have h1 := hS.2.1
  obtain ⟨r0, r1, -, -⟩ := hS.2.2.2.1 (j : Int) (by omega) hj
  unfold axp
  rw [h.qjn (by omega) (by omega) (by decide) (by decide), h.qjn (by omega) (by omega) (by decide) (by decide), h.qtee r0.1 (by omega), h.qtee r1.1 (by omega)]
theorem AG.qpts {S T : Int → Int} (h : AG S T) (hS : StrOK S) : pts T = pts S := by
  have h1 := hS.2.1
  unfold pts
  rw [h.a1]
  refine prdB_congr _ (fun j hj => ?_)
  rw [h.qaxp hS (by omega)]
  unfold axp
  rw [h.qaxl (by omega)]
theorem AG.hi {S T : Int → Int} (h : AG S T) (hS : StrOK S) {w b r : Int} {lo up dn : Int → Int} (q : HI S w b r lo up dn) : HI T w b r lo up dn := by
  have h1 := hS.2.1
  obtain ⟨a1, a2, a3, a4, a5, a6, used, F, E, B, cB, c1, c2, c3, c4⟩ := q
  unfold HI
  rw [h.a0, h.a1]
  refine ⟨a1, a2, fun d d0 d1 d2 => (h.cn hS).mpr (a3 d d0 d1 d2), fun j hj => ?_, a5, fun p q hq s hc hs d d0 d1 d2 d3 => ?_, used, F, E, B, cB, fun j hu => ?_, fun d => ?_, c3, c4⟩
  · have hj := h.qact.mp hj
    have j0 := hj.1
    have j1 := hj.2.1
    rw [h.qjn j0 (by omega) (by decide) (by decide), h.qjn j0 (by omega) (by decide) (by decide)]
    exact a4 j hj
  · refine a6 p q hq s (fun j hj hcn => ?_) hs d d0 d1 d2 d3
    have j0 := hj.1
    have j1 := hj.2.1
    exact (h.qcompat hS hj).mp (hc j (h.qact.mpr hj) (by rw [h.qjn j0 (by omega) (by decide) (by decide)]; exact (h.cn hS).mpr hcn))
  · obtain ⟨u1, u2, u3, u4⟩ := c1 j hu
    rw [h.qaxl (by omega), h.qjn (by omega) (by omega) (by decide) (by decide), h.qjn (by omega) (by omega) (by decide) (by decide)]
    exact ⟨u1, u2, u3, u4⟩
  · obtain ⟨f1, f2, f3⟩ := c2 d
    refine ⟨f1, f2, ?_⟩
    rw [f3]
    exact prdB_congr _ (fun j hj => (h.qaxp hS (by omega)).symm)
theorem AG.qlkP {S T : Int → Int} (h : AG S T) (hS : StrOK S) {w d : Int} {lo up dn : Int → Int} : lkP T w lo up dn d ↔ lkP S w lo up dn d := by
  have h1 := hS.2.1
  constructor
  · rintro ⟨j, hj, e, c⟩
    have hj := h.qact.mp hj
    have j0 := hj.1
    have j1 := hj.2.1
    rw [h.qjn j0 (by omega) (by decide) (by decide)] at e
    exact ⟨j, hj, e, fun q => c ((h.qcompat hS hj).mpr q)⟩
  · rintro ⟨j, hj, e, c⟩
    have j0 := hj.1
    have j1 := hj.2.1
    exact ⟨j, h.qact.mpr hj, by rw [h.qjn j0 (by omega) (by decide) (by decide)]; exact e, fun q => c ((h.qcompat hS hj).mp q)⟩
theorem AG.hung {S T : Int → Int} (h : AG S T) (hS : StrOK S) {lo up dn lk : Int → Int} (q : Hung S 0 lo up dn lk) : Hung T 0 lo up dn lk := by
  unfold Hung
  rw [h.a0]
  exact ⟨h.hi hS q.1, fun x x0 x1 => ⟨(q.2 x x0 x1).1, (q.2 x x0 x1).2.trans (h.qlkP hS).symm⟩⟩
theorem AG.qbel {S T : Int → Int} (h : AG S T) {lo up dn lk : Int → Int} {d : Int} : bel T lo up dn lk d = bel S lo up dn lk d := by
  unfold bel; rw [h.a0]
theorem AG.gx {S T : Int → Int} (h : AG S T) {μ : Mem} {lo up dn lk pl : Int → Int} (q : GX μ S lo up dn lk pl) : GX μ T lo up dn lk pl := by
  obtain ⟨hS, hT, hH, hF, hp, hb⟩ := q
  have h0 := hS.1
  have h1 := hS.2.1
  refine ⟨h.str hS, ?_, h.hung hS hH, ?_, ?_, hb⟩
  · obtain ⟨⟨t1, t2, t3, t4⟩, t5, t6, t7⟩ := hT
    unfold GT GS
    rw [h.a0, h.a1, h.a2]
    refine ⟨⟨t1, t2, fun d d0 d1 => ?_, fun j j0 j1 => ?_⟩, fun d d0 d1 => ?_, t6, t7⟩
    · rw [h.qtee d0 (by omega)]; exact t3 d d0 d1
    · rw [h.qjn j0 (by omega) (by decide) (by decide), h.qjn j0 (by omega) (by decide) (by decide), h.qjn j0 (by omega) (by decide) (by decide)]; exact t4 j j0 j1
    · rw [h.qspn d0 (by omega)]; exact t5 d d0 d1
  · unfold GF stp
    rw [h.a0]
    simp only [h.qbel]
    exact hF
  · rw [h.a0, h.qpts hS]
    simp only [h.qbel]
    exact hp
theorem AG.mx {μ ν : Mem} (h : AG (μ 11) (ν 11)) (q : MX μ) (e14 : ν 14 = μ 14) (e15 : ν 15 = μ 15) (e16 : ν 16 = μ 16) (e17 : ν 17 = μ 17) (e32 : ν 0 32 = μ 0 32) (e12 : ν 12 = μ 12) : MX ν := by
  obtain ⟨hS, hH, hP, hb, hx⟩ := q
  unfold MX
  rw [e14, e15, e16, e17, e32, e12, h.qpts hS, h.a2]
  exact ⟨h.str hS, h.hung hS hH, hP, hb, hx⟩
