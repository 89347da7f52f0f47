/-! rules: one outcome; lists in rows; what the machine keeps -/
theorem some_det {α : Type} {x r r' : α} (a : some x = some r) (b : some x = some r') : r = r' := (Option.some.inj a).symm.trans (Option.some.inj b)
def Det (R R' : RCT) : Prop := ∀ k w cl vl nx D c r r', R k w cl vl nx D c = some r → R' k w cl vl nx D c = some r' → r = r'
section DET
variable {A : Int → Int} {n k cl vl nx : Int} {w : List Int} {D : List CLS} {c : CLS} {r r' : Except Int (List CLS)} {R R' : RCT}
theorem stO_det (h : Det R R') (a : stO A n R k w cl vl D c = some r) (b : stO A n R' k w cl vl D c = some r') : r = r' := by
  unfold stO at a b
  by_cases c1 : 10 ≤ dpn w
  · rw [if_pos c1] at a b; exact some_det a b
  · rw [if_neg c1] at a b
    by_cases c2 : sgn A n (sk A n k) = 91
    · rw [if_pos c2] at a b; exact h _ _ _ _ _ _ _ _ _ a b
    · rw [if_neg c2] at a b; exact h _ _ _ _ _ _ _ _ _ a b
theorem stV_det (h : Det R R') (a : stV A n R k w cl vl nx D c = some r) (b : stV A n R' k w cl vl nx D c = some r') : r = r' := by
  unfold stV at a b
  cases hv : vat A n (sk A n k) with
  | error e => rw [hv] at a b; exact some_det a b
  | ok v =>
    rw [hv] at a b
    dsimp only at a b
    by_cases c1 : 60 ≤ vl
    · rw [if_pos c1] at a b; exact some_det a b
    · rw [if_neg c1] at a b; exact h _ _ _ _ _ _ _ _ _ a b
theorem stN_det (h : Det R R') (a : stN A n R k cl vl D = some r) (b : stN A n R' k cl vl D = some r') : r = r' := by
  unfold stN at a b
  by_cases c1 : wat A n (sk A n k) 1886745448 = true
  · rw [if_pos c1] at a b
    by_cases c2 : 12 ≤ cl
    · rw [if_pos c2] at a b; exact some_det a b
    · rw [if_neg c2] at a b; exact h _ _ _ _ _ _ _ _ _ a b
  · rw [if_neg c1] at a b; exact some_det a b
theorem stB_det (h : Det R R') (a : stB A n R k w cl vl nx D c = some r) (b : stB A n R' k w cl vl nx D c = some r') : r = r' := by
  unfold stB at a b
  by_cases c1 : nx ≠ 7 ∧ 0 ≤ recOp (sgn A n (sk A n k))
  · rw [if_pos c1] at a b; exact h _ _ _ _ _ _ _ _ _ a b
  rw [if_neg c1] at a b
  by_cases c2 : nx = 3
  · rw [if_pos c2] at a b
    by_cases c3 : cmpOp (sgn A n (sk A n k)) (decide (sgn A n (sk A n k + 1) = 61)) = -1
    · rw [if_pos c3] at a b; exact some_det a b
    · rw [if_neg c3] at a b
      by_cases c4 : 60 ≤ vl
      · rw [if_pos c4] at a b; exact some_det a b
      · rw [if_neg c4] at a b; exact h _ _ _ _ _ _ _ _ _ a b
  rw [if_neg c2] at a b
  by_cases c3 : nx = 1 ∧ wat A n (sk A n k) 26982 = true
  · rw [if_pos c3] at a b; exact h _ _ _ _ _ _ _ _ _ a b
  rw [if_neg c3] at a b
  by_cases c4 : nx ≠ 1 ∧ wat A n (sk A n k) 6385252 = true
  · rw [if_pos c4] at a b; exact h _ _ _ _ _ _ _ _ _ a b
  rw [if_neg c4] at a b
  by_cases c5 : nx ≠ 1 ∧ wat A n (sk A n k) 28530 = true
  · rw [if_pos c5] at a b; exact h _ _ _ _ _ _ _ _ _ a b
  rw [if_neg c5] at a b
  by_cases c6 : 0 < brn w
  · rw [if_pos c6] at a b
    by_cases c7 : sgn A n (sk A n k) = 93
    · rw [if_pos c7] at a b; exact h _ _ _ _ _ _ _ _ _ a b
    · rw [if_neg c7] at a b; exact some_det a b
  rw [if_neg c6] at a b
  by_cases c7 : sgn A n (sk A n k) = 59
  · rw [if_pos c7] at a b; exact stN_det h a b
  rw [if_neg c7] at a b
  by_cases c8 : sk A n k < n
  · rw [if_pos c8] at a b; exact some_det a b
  · rw [if_neg c8] at a b; exact some_det a b
theorem rnr_det (A : Int → Int) (n : Int) : ∀ f g : Nat, Det (rnr A n f) (rnr A n g)
  | 0, _ => fun k w cl vl nx D c r r' a _ => absurd a (by intro h; cases h)
  | _ + 1, 0 => fun k w cl vl nx D c r r' _ b => absurd b (by intro h; cases h)
  | f + 1, g + 1 => fun k w cl vl nx D c r r' a b => by
    have ih := rnr_det A n f g
    unfold rnr at a b
    by_cases c1 : nx = 6 ∧ isOpn A n (sk A n k)
    · rw [if_pos c1] at a b; exact stO_det ih a b
    · rw [if_neg c1] at a b
      by_cases c2 : nx % 2 = 0
      · rw [if_pos c2] at a b; exact stV_det ih a b
      · rw [if_neg c2] at a b; exact stB_det ih a b
theorem RUNN_det (a : RUNN A n k cl vl D r) (b : RUNN A n k cl vl D r') : r = r' := by
  obtain ⟨f, a⟩ := a
  obtain ⟨g, b⟩ := b
  exact stN_det (rnr_det A n f g) a b
end DET
/-- a list lies in a row, from b on -/
def LST (f : Int → Int) : Int → List Int → Prop
  | _, [] => True
  | b, x :: t => f b = x ∧ LST f (b + 1) t
theorem LST_app {f : Int → Int} : ∀ {L M : List Int} {b : Int}, LST f b (L ++ M) ↔ LST f b L ∧ LST f (b + (L.length : Int)) M
  | [], M, b => by
    show LST f b M ↔ True ∧ LST f (b + ((0 : Nat) : Int)) M
    rw [show b + ((0 : Nat) : Int) = b by omega]
    exact ⟨fun h => ⟨trivial, h⟩, fun h => h.2⟩
  | x :: t, M, b => by
    show (f b = x ∧ LST f (b + 1) (t ++ M)) ↔ (f b = x ∧ LST f (b + 1) t) ∧ LST f (b + ((t.length + 1 : Nat) : Int)) M
    rw [LST_app (L := t), show b + ((t.length + 1 : Nat) : Int) = b + 1 + (t.length : Int) by omega, and_assoc]
theorem LST_snoc {f : Int → Int} {L : List Int} {b x : Int} : LST f b (L ++ [x]) ↔ LST f b L ∧ f (b + (L.length : Int)) = x := by
  rw [LST_app]
  exact ⟨fun h => ⟨h.1, h.2.1⟩, fun h => ⟨h.1, h.2, trivial⟩⟩
theorem LST_keep {f g : Int → Int} : ∀ {L : List Int} {b : Int}, LST f b L → (∀ i, b ≤ i → i < b + (L.length : Int) → g i = f i) → LST g b L
  | [], _, _, _ => trivial
  | x :: t, b, h, e => by
    have l : (((x :: t).length : Nat) : Int) = (t.length : Int) + 1 := by simp
    exact ⟨by rw [e b (Int.le_refl _) (by omega)]; exact h.1, LST_keep h.2 (fun i i0 i1 => e i (by omega) (by omega))⟩
/-- a stack lies in a row, its top last -/
def WST (f : Int → Int) : List Int → Prop
  | [] => True
  | op :: t => f (t.length : Int) = op ∧ WST f t
theorem WST_keep {f g : Int → Int} : ∀ {w : List Int}, WST f w → (∀ i, 0 ≤ i → i < (w.length : Int) → g i = f i) → WST g w
  | [], _, _ => trivial
  | x :: t, h, e => by
    have l : (((x :: t).length : Nat) : Int) = (t.length : Int) + 1 := by simp
    exact ⟨by rw [e _ (by omega) (by omega)]; exact h.1, WST_keep h.2 (fun i i0 i1 => e i i0 (by omega))⟩
/-- a rule's code in the class, in the reference -/
def flC : List CLS → List Int
  | [] => []
  | x :: D => x.1 ++ (match x.2 with | none => [20] | some u => u ++ [21]) ++ flC D
def flM : List CLS → List Int
  | [] => []
  | x :: D => x.1 ++ x.2.getD [] ++ flM D
abbrev cuC (c : CLS) : List Int := c.1 ++ c.2.getD []
theorem cuC_emt (op : Int) (c : CLS) : cuC (emt op c) = cuC c ++ [op] := by
  unfold emt cuC
  rcases c with ⟨a, t⟩
  cases t <;> simp
theorem emt_ct (op : Int) (c : CLS) : (emt op c).2 = none ↔ c.2 = none := by
  unfold emt
  rcases c with ⟨a, t⟩
  cases t <;> simp
def trm (c : CLS) : Int := if c.2 = none then 20 else 21
theorem flC_snoc (c : CLS) : ∀ D : List CLS, flC (D ++ [c]) = flC D ++ cuC c ++ [trm c]
  | [] => by
    unfold trm
    rcases c with ⟨a, t⟩
    cases t <;> simp [flC]
  | x :: D => by
    show x.1 ++ _ ++ flC (D ++ [c]) = (x.1 ++ _ ++ flC D) ++ cuC c ++ [trm c]
    rw [flC_snoc c D]
    simp only [List.append_assoc]
theorem flM_snoc (c : CLS) : ∀ D : List CLS, flM (D ++ [c]) = flM D ++ cuC c
  | [] => by simp [flM]
  | x :: D => by
    show x.1 ++ _ ++ flM (D ++ [c]) = (x.1 ++ _ ++ flM D) ++ cuC c
    rw [flM_snoc c D]
    simp only [List.append_assoc]
theorem flM_le : ∀ D : List CLS, (flM D).length ≤ (flC D).length
  | [] => Nat.le_refl _
  | x :: D => by
    have := flM_le D
    rcases x with ⟨a, t⟩
    cases t <;> simp [flM, flC] <;> omega
def nC (D : List CLS) (c : CLS) : Int := (((flC D).length + (cuC c).length : Nat) : Int)
theorem nC_emt (D : List CLS) (op : Int) (c : CLS) : nC D (emt op c) = nC D c + 1 := by
  unfold nC; rw [cuC_emt]; simp; omega
abbrev okw (op : Int) : Prop := (8 ≤ op ∧ op ≤ 19) ∨ op = 22
/-- what holds while a clause is read -/
def IV (n k : Int) (w : List Int) (cl vl nx : Int) (D : List CLS) (c : CLS) : Prop :=
  (0 ≤ k ∧ k ≤ n ∧ n ≤ 400) ∧ ((D.length : Int) + 1 = cl ∧ cl ≤ 12) ∧ (0 ≤ vl ∧ vl ≤ 60) ∧ (nC D c + (w.length : Int) + 1 ≤ k) ∧ (∀ op ∈ w, okw op) ∧ (0 ≤ nx ∧ nx ≤ 7) ∧ (c.2 = none ↔ nx ≤ 1) ∧ (nx ≤ 1 → brn w = 0)
theorem nC_nn (D : List CLS) (c : CLS) : 0 ≤ nC D c := by unfold nC; omega
theorem brn_nn : ∀ w : List Int, 0 ≤ brn w
  | [] => Int.le_refl _
  | op :: t => by
    have := brn_nn t
    show 0 ≤ brn t + (if op = 22 then 1 else 0)
    split <;> omega
theorem brn_tl {op : Int} {w : List Int} (h : brn (op :: w) = 0) : brn w = 0 := by
  have := brn_nn w
  have e : brn (op :: w) = brn w + (if op = 22 then 1 else 0) := rfl
  rw [e] at h
  split at h <;> omega
section IVS
variable {n k k' cl vl vl' nx nx' b op : Int} {w w' : List Int} {D : List CLS} {c c' : CLS}
theorem IV.to (h : IV n k w cl vl nx D c) (hk : k ≤ k') (hk' : k' ≤ n) : IV n k' w cl vl nx D c := by
  obtain ⟨h1, h2, h3, h4, h5, h6, h7⟩ := h
  exact ⟨by omega, h2, h3, by omega, h5, h6, h7⟩
theorem IV.at (h : IV n k w cl vl nx D c) (h0 : 0 ≤ nx' ∧ nx' ≤ 7) (he : nx' ≤ 1 ↔ nx ≤ 1) : IV n k w cl vl nx' D c := by
  obtain ⟨h1, h2, h3, h4, h5, h6, h7, h8⟩ := h
  exact ⟨h1, h2, h3, h4, h5, h0, h7.trans he.symm, fun q => h8 (he.mp q)⟩
theorem IV.push (h : IV n k w cl vl nx D c) (ho : okw op) (hx : nx ≤ 1 → op ≠ 22) (hk : k + 1 ≤ k') (hk' : k' ≤ n) : IV n k' (op :: w) cl vl nx D c := by
  obtain ⟨h1, h2, h3, h4, h5, h6, h7, h8⟩ := h
  refine ⟨by omega, h2, h3, by simp; omega, fun x hx => ?_, h6, h7, fun q => by rw [brn_cons (hx q)]; exact h8 q⟩
  rcases List.mem_cons.mp hx with e | e
  · rw [e]; exact ho
  · exact h5 x e
theorem IV.emit (h : IV n k w cl vl nx D c) (hk : k + 1 ≤ k') (hk' : k' ≤ n) (hv : 0 ≤ vl' ∧ vl' ≤ 60) : IV n k' w cl vl' nx D (emt op c) := by
  obtain ⟨h1, h2, h3, h4, h5, h6, h7, h8⟩ := h
  exact ⟨by omega, h2, hv, by rw [nC_emt]; omega, h5, h6, (emt_ct op c).trans h7, h8⟩
theorem IV.pop (h : IV n k (op :: w) cl vl nx D c) : IV n k w cl vl nx D c := by
  obtain ⟨h1, h2, h3, h4, h5, h6, h7, h8⟩ := h
  have h4 : nC D c + (((op :: w).length : Nat) : Int) + 1 ≤ k := h4
  simp at h4
  exact ⟨h1, h2, h3, by omega, fun x hx => h5 x (List.mem_cons_of_mem _ hx), h6, h7, fun q => brn_tl (h8 q)⟩
/-- a waiting sign is put down -/
theorem IV.down (h : IV n k (op :: w) cl vl nx D c) : IV n k w cl vl nx D (emt op c) := by
  obtain ⟨h1, h2, h3, h4, h5, h6, h7, h8⟩ := h
  have h4 : nC D c + (((op :: w).length : Nat) : Int) + 1 ≤ k := h4
  simp at h4
  exact ⟨h1, h2, h3, by rw [nC_emt]; omega, fun x hx => h5 x (List.mem_cons_of_mem _ hx), h6, (emt_ct op c).trans h7, fun q => brn_tl (h8 q)⟩
theorem IV.sett : ∀ {w : List Int} {c : CLS}, IV n k w cl vl nx D c → IV n k (stl b w c).1 cl vl nx D (stl b w c).2
  | [], _, h => h
  | op :: t, c, h => by
    by_cases e : b ≤ bnd op
    · rw [stl_cons e]; exact IV.sett h.down
    · rw [stl_stop e]; exact h
theorem IV.settE (h : IV n k w cl vl nx D c) (e : stl b w c = (w', c')) : IV n k w' cl vl nx D c' := by
  have q := h.sett (b := b)
  rw [e] at q; exact q
theorem bnd_ok (h : okw op) (h22 : op ≠ 22) : 1 ≤ bnd op := by
  unfold bnd
  rcases h with h | h
  · (repeat' split) <;> omega
  · exact absurd h h22
theorem stl_br : ∀ {w : List Int} {c : CLS}, (∀ op ∈ w, okw op) → 0 < brn w → ∃ t, (stl 1 w c).1 = 22 :: t
  | [], _, _, h => absurd h (by show ¬ (0 : Int) < 0; decide)
  | op :: t, c, ho, h => by
    by_cases e : op = 22
    · subst e
      exact ⟨t, by rw [stl_stop (by decide)]⟩
    · rw [stl_cons (bnd_ok (ho op (by simp)) e)]
      rw [brn_cons e] at h
      exact stl_br (fun x hx => ho x (List.mem_cons_of_mem _ hx)) h
theorem stl_nb : ∀ {w : List Int} {c : CLS}, (∀ op ∈ w, okw op) → ¬ 0 < brn w → (stl 1 w c).1 = []
  | [], _, _, _ => rfl
  | op :: t, c, ho, h => by
    by_cases e : op = 22
    · subst e
      have := brn_nn t
      exact absurd (show 0 < brn t + (if (22 : Int) = 22 then 1 else 0) by rw [if_pos rfl]; omega) h
    · rw [stl_cons (bnd_ok (ho op (by simp)) e)]
      rw [brn_cons e] at h
      exact stl_nb (fun x hx => ho x (List.mem_cons_of_mem _ hx)) h
theorem stl_ct : ∀ {w : List Int} {c : CLS}, (stl b w c).2.2 = none ↔ c.2 = none
  | [], _ => Iff.rfl
  | op :: t, c => by
    by_cases e : b ≤ bnd op
    · rw [stl_cons e]; exact (stl_ct).trans (emt_ct op c)
    · rw [stl_stop e]
end IVS
