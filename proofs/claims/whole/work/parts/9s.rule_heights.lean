/-! a rule's code: no sign lacks what it joins -/
def hst (op h : Int) : Option Int := if (0 ≤ op ∧ op ≤ 7) ∨ (32 ≤ op ∧ op ≤ 100031) then (if h < 60 then some (h + 1) else none) else if op = 19 then (if 1 ≤ h then some h else none) else if 8 ≤ op ∧ op ≤ 18 then (if 2 ≤ h then some (h - 1) else none) else none
def htf : List Int → Int → Option Int
  | [], h => some h
  | op :: t, h => match hst op h with
    | none => none
    | some h' => htf t h'
theorem htf_snoc {op : Int} : ∀ {L : List Int} {h a : Int}, htf L h = some a → htf (L ++ [op]) h = hst op a
  | [], h, a, q => by
    have e : h = a := Option.some.inj q
    subst e
    show (match hst op h with | none => none | some h' => some h') = hst op h
    cases hst op h <;> rfl
  | x :: t, h, a, q => by
    show (match hst x h with | none => none | some h' => htf (t ++ [op]) h') = hst op a
    have q : (match hst x h with | none => none | some h' => htf t h') = some a := q
    cases e : hst x h with
    | none => rw [e] at q; cases q
    | some b =>
      rw [e] at q
      exact htf_snoc q
def cpt (c : CLS) : List Int := match c.2 with
  | none => c.1
  | some t => t
theorem htf_emt {op a : Int} {c : CLS} (h : htf (cpt c) 0 = some a) : htf (cpt (emt op c)) 0 = hst op a := by
  unfold cpt emt at *
  rcases c with ⟨s, t⟩
  cases t with
  | none => exact htf_snoc h
  | some u => exact htf_snoc h
def bnn : List Int → Int
  | [] => 0
  | op :: t => bnn t + (if op = 19 ∨ op = 22 then 0 else 1)
theorem bnn_nn : ∀ w : List Int, 0 ≤ bnn w
  | [] => Int.le_refl _
  | op :: t => by
    have := bnn_nn t
    show 0 ≤ bnn t + (if op = 19 ∨ op = 22 then 0 else 1)
    split <;> omega
theorem bnn_0 {op : Int} {w : List Int} (h : op = 19 ∨ op = 22) : bnn (op :: w) = bnn w := by
  show bnn w + (if op = 19 ∨ op = 22 then 0 else 1) = bnn w
  rw [if_pos h]; omega
theorem bnn_1 {op : Int} {w : List Int} (h : ¬ (op = 19 ∨ op = 22)) : bnn (op :: w) = bnn w + 1 := by
  show bnn w + (if op = 19 ∨ op = 22 then 0 else 1) = bnn w + 1
  rw [if_neg h]
def WFc (c : CLS) : Prop := htf c.1 0 = some 1 ∧ ∀ t, c.2 = some t → htf t 0 = some 1
def IH (w : List Int) (vl nx : Int) (D : List CLS) (c : CLS) : Prop :=
  htf (cpt c) 0 = some (bnn w + nx % 2) ∧ (bnn w + nx % 2 ≤ vl ∧ vl ≤ 60) ∧ (∀ t, c.2 = some t → htf c.1 0 = some 1) ∧ (∀ x ∈ D, WFc x) ∧ (∀ op ∈ w, okw op) ∧ (nx ≤ 1 → brn w = 0) ∧ (c.2 = none ↔ nx ≤ 1) ∧ (0 ≤ nx ∧ nx ≤ 7)
theorem emt_s {op : Int} {c : CLS} {t : List Int} (h : (emt op c).2 = some t) : (emt op c).1 = c.1 ∧ ∃ u, c.2 = some u := by
  unfold emt at *
  rcases c with ⟨a, u⟩
  cases u with
  | none => exact absurd h (by simp)
  | some v => exact ⟨rfl, v, rfl⟩
section HGT
variable {vl vl' nx nx' b op : Int} {w w' : List Int} {D D' : List CLS} {c c' : CLS}
theorem hst_bin {a : Int} (h : 8 ≤ op ∧ op ≤ 18) (ha : 2 ≤ a) : hst op a = some (a - 1) := by
  unfold hst
  rw [if_neg (by omega), if_neg (by omega), if_pos h, if_pos ha]
theorem hst_not {a : Int} (ha : 1 ≤ a) : hst 19 a = some a := by
  unfold hst
  rw [if_neg (by decide), if_pos rfl, if_pos ha]
theorem hst_val {a : Int} (h : (0 ≤ op ∧ op ≤ 7) ∨ (32 ≤ op ∧ op ≤ 100031)) (ha : a < 60) : hst op a = some (a + 1) := by
  unfold hst
  rw [if_pos h, if_pos ha]
theorem IH.down (h : IH (op :: w) vl nx D c) (hn : nx % 2 = 1) (h22 : op ≠ 22) : IH w vl nx D (emt op c) := by
  obtain ⟨h1, h2, h3, h4, h5, h6, h7, h8⟩ := h
  have ho := h5 op (by simp)
  have n0 := bnn_nn w
  have e : htf (cpt (emt op c)) 0 = some (bnn w + nx % 2) ∧ bnn w + nx % 2 ≤ vl := by
    rw [htf_emt h1]
    by_cases e : op = 19
    · rw [bnn_0 (Or.inl e)] at h2 ⊢
      rw [e, hst_not (by omega)]
      exact ⟨rfl, h2.1⟩
    · rw [bnn_1 (by omega)] at h2 ⊢
      rw [hst_bin (by omega) (by omega)]
      exact ⟨by congr 1; omega, by omega⟩
  refine ⟨e.1, ⟨e.2, h2.2⟩, fun t ht => ?_, h4, fun x hx => h5 x (List.mem_cons_of_mem _ hx), fun q => brn_tl (h6 q), (emt_ct op c).trans h7, h8⟩
  obtain ⟨e1, u, e2⟩ := emt_s ht
  rw [e1]; exact h3 u e2
theorem IH.sett (hb : 1 ≤ b) (hn : nx % 2 = 1) : ∀ {w : List Int} {c : CLS}, IH w vl nx D c → IH (stl b w c).1 vl nx D (stl b w c).2
  | [], _, h => h
  | op :: t, c, h => by
    by_cases e : b ≤ bnd op
    · rw [stl_cons e]
      exact IH.sett hb hn (h.down hn (fun q => by rw [q, show bnd 22 = 0 from rfl] at e; omega))
    · rw [stl_stop e]; exact h
theorem IH.wfc (h : IH [] vl nx D c) (hn : nx % 2 = 1) : WFc c := by
  obtain ⟨h1, h2, h3, h4, h5, h6, h7, h8⟩ := h
  rw [hn, show bnn [] + 1 = 1 from rfl] at h1
  unfold cpt at h1
  refine ⟨?_, fun t ht => ?_⟩
  · cases e : c.2 with
    | none => rw [e] at h1; exact h1
    | some t => exact h3 t e
  · rw [ht] at h1; exact h1
def Wf (R : RCT) : Prop := ∀ k w cl vl nx D c D', IH w vl nx D c → R k w cl vl nx D c = some (.ok D') → ∀ x ∈ D', WFc x
end HGT
section HGS
variable {A : Int → Int} {n k cl vl nx : Int} {w : List Int} {D D' : List CLS} {c : CLS} {R : RCT}
theorem IH.push {op nx' vl' : Int} (h : IH w vl nx D c) (ho : okw op) (hn : bnn (op :: w) + nx' % 2 = bnn w + nx % 2) (h22 : nx' ≤ 1 → op ≠ 22) (hx : nx' ≤ 1 ↔ nx ≤ 1) (h8 : 0 ≤ nx' ∧ nx' ≤ 7) (hv : vl ≤ vl' ∧ vl' ≤ 60) : IH (op :: w) vl' nx' D c := by
  obtain ⟨h1, h2, h3, h4, h5, h6, h7, -⟩ := h
  refine ⟨by rw [hn]; exact h1, ⟨by rw [hn]; omega, hv.2⟩, h3, h4, fun x hx' => ?_, fun q => by rw [brn_cons (h22 q)]; exact h6 (hx.mp q), h7.trans hx.symm, h8⟩
  rcases List.mem_cons.mp hx' with e | e
  · rw [e]; exact ho
  · exact h5 x e
theorem stO_wf (h : Wf R) (hI : IH w vl 6 D c) (a : stO A n R k w cl vl D c = some (.ok D')) : ∀ x ∈ D', WFc x := by
  unfold stO at a
  by_cases c1 : 10 ≤ dpn w
  · rw [if_pos c1] at a; cases a
  · rw [if_neg c1] at a
    have hv := hI.2.1.2
    by_cases c2 : sgn A n (sk A n k) = 91
    · rw [if_pos c2] at a
      exact h _ _ _ _ _ _ _ _ (hI.push (Or.inr rfl) (by rw [bnn_0 (Or.inr rfl)]) (fun q => absurd q (by decide)) Iff.rfl (by decide) ⟨Int.le_refl _, hv⟩) a
    · rw [if_neg c2] at a
      exact h _ _ _ _ _ _ _ _ (hI.push (Or.inl (by decide)) (by rw [bnn_0 (Or.inl rfl)]) (fun q => absurd q (by decide)) Iff.rfl (by decide) ⟨Int.le_refl _, hv⟩) a
theorem vat_rng {q : Int} {v : Int × Int} (h : vat A n q = .ok v) : (0 ≤ v.1 ∧ v.1 ≤ 7) ∨ (32 ≤ v.1 ∧ v.1 ≤ 100031) := by
  unfold vat at h
  by_cases c1 : q < n ∧ isDg A q = true
  · rw [if_pos c1] at h
    by_cases c2 : dend A n q - q ≤ 5
    · rw [if_pos c2] at h
      have e : v = (32 + dval A q (dend A n q), dend A n q) := by cases h; rfl
      have := dval_bd (A := A) (n := n) (k := q)
      rw [e]; exact Or.inr ⟨by dsimp only; omega, by dsimp only; omega⟩
    · rw [if_neg c2] at h; cases h
  · rw [if_neg c1] at h
    by_cases c2 : 0 ≤ wix A n q
    · rw [if_pos c2] at h
      have e : v = (wix A n q, lend A n q) := by cases h; rfl
      have := (wix_rng A n q).1
      rw [e]; exact Or.inl ⟨c2, this⟩
    · rw [if_neg c2] at h; cases h
theorem stV_wf (h : Wf R) (hn : nx % 2 = 0) (hI : IH w vl nx D c) (a : stV A n R k w cl vl nx D c = some (.ok D')) : ∀ x ∈ D', WFc x := by
  unfold stV at a
  cases hv : vat A n (sk A n k) with
  | error e => rw [hv] at a; cases a
  | ok v =>
    rw [hv] at a
    dsimp only at a
    by_cases c1 : 60 ≤ vl
    · rw [if_pos c1] at a; cases a
    · rw [if_neg c1] at a
      obtain ⟨h1, h2, h3, h4, h5, h6, h7, h8⟩ := hI
      refine h _ _ _ _ _ _ _ _ ⟨?_, ?_, fun t ht => ?_, h4, h5, fun q => h6 (by split at q <;> omega), (emt_ct _ c).trans (h7.trans (by split <;> omega)), by split <;> omega⟩ a
      · rw [htf_emt h1, hst_val (vat_rng hv) (by omega)]
        congr 1
        split <;> omega
      · split <;> omega
      · obtain ⟨e1, u, e2⟩ := emt_s ht
        rw [e1]; exact h3 u e2
theorem stN_wf (h : Wf R) (hD : ∀ x ∈ D, WFc x) (hv : 0 ≤ vl ∧ vl ≤ 60) (a : stN A n R k cl vl D = some (.ok D')) : ∀ x ∈ D', WFc x := by
  unfold stN at a
  by_cases c1 : wat A n (sk A n k) 1886745448 = true
  · rw [if_pos c1] at a
    by_cases c2 : 12 ≤ cl
    · rw [if_pos c2] at a; cases a
    · rw [if_neg c2] at a
      exact h _ _ _ _ _ _ _ _ ⟨rfl, ⟨hv.1, hv.2⟩, fun t ht => absurd ht (by simp), hD, fun op q => absurd q (by simp), fun _ => rfl, ⟨fun _ => by decide, fun _ => rfl⟩, by decide⟩ a
  · rw [if_neg c1] at a; cases a
theorem stB_wf (h : Wf R) (hn : nx % 2 = 1) (hI : IH w vl nx D c) (a : stB A n R k w cl vl nx D c = some (.ok D')) : ∀ x ∈ D', WFc x := by
  have hx := hI.2.2.2.2.2.2.2
  have hv := hI.2.1
  have b0 := bnn_nn w
  have ho := hI.2.2.2.2.1
  have hD := hI.2.2.2.1
  unfold stB at a
  by_cases c1 : nx ≠ 7 ∧ 0 ≤ recOp (sgn A n (sk A n k))
  · rw [if_pos c1] at a
    have r := recOp_rng (sgn A n (sk A n k))
    have rb := bnd_rng (op := recOp (sgn A n (sk A n k))) (by omega)
    refine h _ _ _ _ _ _ _ _ ((hI.sett rb.1 hn).push (Or.inl (by omega)) ?_ (fun _ => by omega) (by omega) (by omega) ⟨Int.le_refl _, hv.2⟩) a
    rw [bnn_1 (by omega)]; omega
  rw [if_neg c1] at a
  by_cases c2 : nx = 3
  · rw [if_pos c2] at a
    by_cases c3 : cmpOp (sgn A n (sk A n k)) (decide (sgn A n (sk A n k + 1) = 61)) = -1
    · rw [if_pos c3] at a; cases a
    · rw [if_neg c3] at a
      by_cases c4 : 60 ≤ vl
      · rw [if_pos c4] at a; cases a
      · rw [if_neg c4] at a
        have r : 12 ≤ cmpOp (sgn A n (sk A n k)) (decide (sgn A n (sk A n k + 1) = 61)) ∧ cmpOp (sgn A n (sk A n k)) (decide (sgn A n (sk A n k + 1) = 61)) ≤ 16 := by
          revert c3
          unfold cmpOp
          (repeat' split) <;> omega
        refine h _ _ _ _ _ _ _ _ ((hI.sett (b := 4) (by decide) hn).push (Or.inl (by omega)) ?_ (fun _ => by omega) (by omega) (by decide) ⟨by omega, by omega⟩) a
        rw [bnn_1 (by omega)]; omega
  rw [if_neg c2] at a
  have hs := hI.sett (b := 1) (by decide) hn
  by_cases c3 : nx = 1 ∧ wat A n (sk A n k) 26982 = true
  · rw [if_pos c3] at a
    have e := stl_nb (c := c) ho (by have := hI.2.2.2.2.2.1 (by omega); omega)
    rw [e] at a hs
    have wf := hs.wfc hn
    refine h _ _ _ _ _ _ _ _ ?_ a
    exact ⟨rfl, ⟨by show (0 : Int) ≤ vl; omega, hv.2⟩, fun t _ => wf.1, hD, fun op q => absurd q (by simp), fun _ => rfl, ⟨fun q => absurd q (by simp), fun q => absurd q (by decide)⟩, by decide⟩
  rw [if_neg c3] at a
  by_cases c4 : nx ≠ 1 ∧ wat A n (sk A n k) 6385252 = true
  · rw [if_pos c4] at a
    refine h _ _ _ _ _ _ _ _ ((hI.sett (b := 2) (by decide) hn).push (Or.inl (by decide)) ?_ (fun _ => by decide) (by omega) (by decide) ⟨Int.le_refl _, hv.2⟩) a
    rw [bnn_1 (by decide)]; omega
  rw [if_neg c4] at a
  by_cases c5 : nx ≠ 1 ∧ wat A n (sk A n k) 28530 = true
  · rw [if_pos c5] at a
    refine h _ _ _ _ _ _ _ _ (hs.push (Or.inl (by decide)) ?_ (fun _ => by decide) (by omega) (by decide) ⟨Int.le_refl _, hv.2⟩) a
    rw [bnn_1 (by decide)]; omega
  rw [if_neg c5] at a
  by_cases c6 : 0 < brn w
  · rw [if_pos c6] at a
    by_cases c7 : sgn A n (sk A n k) = 93
    · rw [if_pos c7] at a
      obtain ⟨t, et⟩ := stl_br (c := c) ho c6
      rw [et] at a hs
      obtain ⟨h1, h2, h3, h4, h5, h6, h7, h8⟩ := hs
      have n1 : ¬ nx ≤ 1 := fun q => by have := hI.2.2.2.2.2.1 q; omega
      rw [bnn_0 (Or.inr rfl)] at h1 h2
      exact h _ _ _ _ _ _ _ _ ⟨by rw [show (7 : Int) % 2 = nx % 2 by omega]; exact h1, ⟨by omega, h2.2⟩, h3, h4, fun x hx => h5 x (List.mem_cons_of_mem _ hx), fun q => absurd q (by decide), ⟨fun q => absurd (h7.mp q) n1, fun q => absurd q (by decide)⟩, by decide⟩ a
    · rw [if_neg c7] at a; cases a
  rw [if_neg c6] at a
  have e := stl_nb (c := c) ho c6
  rw [e] at hs
  have wf := hs.wfc hn
  have hD2 : ∀ x ∈ D ++ [(stl 1 w c).2], WFc x := fun x hx => by
    rcases List.mem_append.mp hx with q | q
    · exact hD x q
    · rw [List.mem_singleton.mp q]; exact wf
  by_cases c7 : sgn A n (sk A n k) = 59
  · rw [if_pos c7] at a; exact stN_wf h hD2 ⟨by omega, hv.2⟩ a
  rw [if_neg c7] at a
  by_cases c8 : sk A n k < n
  · rw [if_pos c8] at a; cases a
  · rw [if_neg c8] at a
    have e2 : D' = D ++ [(stl 1 w c).2] := by cases a; rfl
    rw [e2]; exact hD2
theorem rnr_wf (A : Int → Int) (n : Int) : ∀ f : Nat, Wf (rnr A n f)
  | 0 => fun k w cl vl nx D c D' _ a => absurd a (by intro h; cases h)
  | f + 1 => fun k w cl vl nx D c D' hI a => by
    have ih := rnr_wf A n f
    unfold rnr at a
    by_cases c1 : nx = 6 ∧ isOpn A n (sk A n k)
    · rw [if_pos c1] at a
      rw [c1.1] at hI
      exact stO_wf ih hI a
    · rw [if_neg c1] at a
      by_cases c2 : nx % 2 = 0
      · rw [if_pos c2] at a; exact stV_wf ih c2 hI a
      · rw [if_neg c2] at a; exact stB_wf ih (by omega) hI a
theorem RUNN_wf (a : RUNN A n 0 0 0 [] (.ok D')) : ∀ x ∈ D', WFc x := by
  obtain ⟨f, a⟩ := a
  exact stN_wf (rnr_wf A n f) (fun x hx => absurd hx (by simp)) (by decide) a
end HGS
