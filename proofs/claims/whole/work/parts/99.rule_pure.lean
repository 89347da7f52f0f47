/-! rules: the machine that reads them, pure (signs wait until what they join is there) -/
/-- a clause: its sum, its test -/
abbrev CLS : Type := List Int × Option (List Int)
abbrev RSL : Type := Option (Except Int (List CLS))
abbrev RCT : Type := Int → List Int → Int → Int → Int → List CLS → CLS → RSL
def emt (op : Int) (c : CLS) : CLS := match c.2 with
  | none => (c.1 ++ [op], none)
  | some t => (c.1, some (t ++ [op]))
def bnd (op : Int) : Int := if op = 10 ∨ op = 11 then 6 else if op = 8 ∨ op = 9 then 5 else if 12 ≤ op ∧ op ≤ 16 then 4 else if op = 19 then 3 else if op = 17 then 2 else if op = 18 then 1 else 0
/-- the waiting signs that bind as b or more are put down -/
def stl (b : Int) : List Int → CLS → List Int × CLS
  | [], c => ([], c)
  | op :: t, c => if b ≤ bnd op then stl b t (emt op c) else (op :: t, c)
def dpn : List Int → Int
  | [] => 0
  | op :: t => dpn t + (if op = 19 ∨ op = 22 then 1 else 0)
def brn : List Int → Int
  | [] => 0
  | op :: t => brn t + (if op = 22 then 1 else 0)
def sgn (A : Int → Int) (n q : Int) : Int := if q < n then A q else -1
def recOp (s : Int) : Int := if s = 43 then 8 else if s = 45 then 9 else if s = 42 then 10 else if s = 47 then 11 else -1
def cmpOp (s : Int) (e : Bool) : Int := if s = 60 then (if e = true then 13 else 12) else if s = 62 then (if e = true then 15 else 16) else if s = 61 then 14 else -1
def wix (A : Int → Int) (n q : Int) : Int := if wat A n q 1685024626 = true then 0 else if wat A n q 499917354088 = true then 1 else if wat A n q 1936744814 = true then 2 else if wat A n q 482854658917 = true then 3 else if wat A n q 1869636974 = true then 4 else if wat A n q 478627065459 = true then 5 else if wat A n q 457135713907 = true then 6 else if wat A n q 109330228145767 = true then 7 else -1
/-- the value at q: what it is, where it ends; or its fault -/
def vat (A : Int → Int) (n q : Int) : Except Int (Int × Int) := if q < n ∧ isDg A q = true then (if dend A n q - q ≤ 5 then .ok (32 + dval A q (dend A n q), dend A n q) else .error (1 + 8 * q + 1)) else if 0 ≤ wix A n q then .ok (wix A n q, lend A n q) else .error (1 + 8 * q + 0)
abbrev isOpn (A : Int → Int) (n q : Int) : Prop := sgn A n q = 91 ∨ wat A n q 7237492 = true
section MCH
variable (A : Int → Int) (n : Int)
def stO (R : RCT) (k : Int) (w : List Int) (cl vl : Int) (D : List CLS) (c : CLS) : RSL :=
  if 10 ≤ dpn w then some (.error (1 + 8 * sk A n k + 2)) else
  if sgn A n (sk A n k) = 91 then R (sk A n k + 1) (22 :: w) cl vl 6 D c else R (lend A n (sk A n k)) (19 :: w) cl vl 6 D c
def stV (R : RCT) (k : Int) (w : List Int) (cl vl nx : Int) (D : List CLS) (c : CLS) : RSL := match vat A n (sk A n k) with
  | .error e => some (.error e)
  | .ok v => if 60 ≤ vl then some (.error (1 + 8 * sk A n k + 3)) else R v.2 w cl (vl + 1) (if nx = 6 then 3 else nx + 1) D (emt v.1 c)
/-- a clause begins -/
def stN (R : RCT) (k cl vl : Int) (D : List CLS) : RSL :=
  if wat A n (sk A n k) 1886745448 = true then (if 12 ≤ cl then some (.error (1 + 8 * sk A n k + 4)) else R (lend A n (sk A n k)) [] (cl + 1) vl 0 D ([], none)) else some (.error (1 + 8 * sk A n k + 0))
def stB (R : RCT) (k : Int) (w : List Int) (cl vl nx : Int) (D : List CLS) (c : CLS) : RSL :=
  if nx ≠ 7 ∧ 0 ≤ recOp (sgn A n (sk A n k)) then R (sk A n k + 1) (recOp (sgn A n (sk A n k)) :: (stl (bnd (recOp (sgn A n (sk A n k)))) w c).1) cl vl (nx - 1) D (stl (bnd (recOp (sgn A n (sk A n k)))) w c).2
  else if nx = 3 then (if cmpOp (sgn A n (sk A n k)) (decide (sgn A n (sk A n k + 1) = 61)) = -1 then some (.error (1 + 8 * sk A n k + 0)) else if 60 ≤ vl then some (.error (1 + 8 * sk A n k + 3)) else
    R (sk A n k + (if cmpOp (sgn A n (sk A n k)) (decide (sgn A n (sk A n k + 1) = 61)) = 13 ∨ cmpOp (sgn A n (sk A n k)) (decide (sgn A n (sk A n k + 1) = 61)) = 15 then 2 else 1)) (cmpOp (sgn A n (sk A n k)) (decide (sgn A n (sk A n k + 1) = 61)) :: (stl 4 w c).1) cl (vl + 1) 4 D (stl 4 w c).2)
  else if nx = 1 ∧ wat A n (sk A n k) 26982 = true then R (lend A n (sk A n k)) (stl 1 w c).1 cl vl 6 D ((stl 1 w c).2.1, some [])
  else if nx ≠ 1 ∧ wat A n (sk A n k) 6385252 = true then R (lend A n (sk A n k)) (17 :: (stl 2 w c).1) cl vl 6 D (stl 2 w c).2
  else if nx ≠ 1 ∧ wat A n (sk A n k) 28530 = true then R (lend A n (sk A n k)) (18 :: (stl 1 w c).1) cl vl 6 D (stl 1 w c).2
  else if 0 < brn w then (if sgn A n (sk A n k) = 93 then R (sk A n k + 1) (stl 1 w c).1.tail cl vl 7 D (stl 1 w c).2 else some (.error (1 + 8 * sk A n k + 0)))
  else if sgn A n (sk A n k) = 59 then stN A n R (sk A n k + 1) cl vl (D ++ [(stl 1 w c).2])
  else if sk A n k < n then some (.error (1 + 8 * sk A n k + 0))
  else some (.ok (D ++ [(stl 1 w c).2]))
def rnr : Nat → RCT
  | 0 => fun _ _ _ _ _ _ _ => none
  | f + 1 => fun k w cl vl nx D c => if nx = 6 ∧ isOpn A n (sk A n k) then stO A n (rnr f) k w cl vl D c else if nx % 2 = 0 then stV A n (rnr f) k w cl vl nx D c else stB A n (rnr f) k w cl vl nx D c
def RUN (k : Int) (w : List Int) (cl vl nx : Int) (D : List CLS) (c : CLS) (r : Except Int (List CLS)) : Prop := ∃ f, rnr A n f k w cl vl nx D c = some r
/-- a clause begins, the rest follows -/
def RUNN (k cl vl : Int) (D : List CLS) (r : Except Int (List CLS)) : Prop := ∃ f, stN A n (rnr A n f) k cl vl D = some r
end MCH
section RULES
variable {A : Int → Int} {n k q cl vl nx e op : Int} {w w' : List Int} {D : List CLS} {c c' : CLS} {r : Except Int (List CLS)}
theorem rnr_O {f : Nat} (h : isOpn A n (sk A n k)) : rnr A n (f + 1) k w cl vl 6 D c = stO A n (rnr A n f) k w cl vl D c := by
  show (if _ then _ else _) = _
  rw [if_pos ⟨rfl, h⟩]
theorem rnr_V {f : Nat} (h : ¬ (nx = 6 ∧ isOpn A n (sk A n k))) (hn : nx % 2 = 0) : rnr A n (f + 1) k w cl vl nx D c = stV A n (rnr A n f) k w cl vl nx D c := by
  show (if _ then _ else _) = _
  rw [if_neg h, if_pos hn]
theorem rnr_B {f : Nat} (hn : nx % 2 = 1) : rnr A n (f + 1) k w cl vl nx D c = stB A n (rnr A n f) k w cl vl nx D c := by
  show (if _ then _ else _) = _
  rw [if_neg (by omega), if_neg (by omega)]
theorem RUN_deep (hq : sk A n k = q) (h : isOpn A n q) (hd : 10 ≤ dpn w) : RUN A n k w cl vl 6 D c (.error (1 + 8 * q + 2)) := by
  subst hq
  refine ⟨1, ?_⟩
  rw [rnr_O h]; unfold stO; rw [if_pos hd]
theorem RUN_br (hq : sk A n k = q) (h : sgn A n q = 91) (hd : ¬ 10 ≤ dpn w) (g : RUN A n (q + 1) (22 :: w) cl vl 6 D c r) : RUN A n k w cl vl 6 D c r := by
  subst hq
  obtain ⟨f, g⟩ := g
  refine ⟨f + 1, ?_⟩
  rw [rnr_O (Or.inl h)]; unfold stO; rw [if_neg hd, if_pos h]; exact g
theorem RUN_not (hq : sk A n k = q) (h : ¬ sgn A n q = 91) (h2 : wat A n q 7237492 = true) (hd : ¬ 10 ≤ dpn w) (g : RUN A n (lend A n q) (19 :: w) cl vl 6 D c r) : RUN A n k w cl vl 6 D c r := by
  subst hq
  obtain ⟨f, g⟩ := g
  refine ⟨f + 1, ?_⟩
  rw [rnr_O (Or.inr h2)]; unfold stO; rw [if_neg hd, if_neg h]; exact g
theorem RUN_vbad (hq : sk A n k = q) (hn : nx % 2 = 0) (h : ¬ (nx = 6 ∧ isOpn A n q)) (hv : vat A n q = .error e) : RUN A n k w cl vl nx D c (.error e) := by
  subst hq
  refine ⟨1, ?_⟩
  rw [rnr_V h hn]; unfold stV; rw [hv]
theorem RUN_vmany (hq : sk A n k = q) (hn : nx % 2 = 0) (h : ¬ (nx = 6 ∧ isOpn A n q)) (hv : vat A n q = .ok (op, e)) (h60 : 60 ≤ vl) : RUN A n k w cl vl nx D c (.error (1 + 8 * q + 3)) := by
  subst hq
  refine ⟨1, ?_⟩
  rw [rnr_V h hn]; unfold stV; rw [hv]; dsimp only; rw [if_pos h60]
theorem RUN_val {nx' : Int} (hq : sk A n k = q) (hn : nx % 2 = 0) (h : ¬ (nx = 6 ∧ isOpn A n q)) (hv : vat A n q = .ok (op, e)) (h60 : ¬ 60 ≤ vl) (hx : (if nx = 6 then 3 else nx + 1) = nx') (g : RUN A n e w cl (vl + 1) nx' D (emt op c) r) : RUN A n k w cl vl nx D c r := by
  subst hq; subst hx
  obtain ⟨f, g⟩ := g
  refine ⟨f + 1, ?_⟩
  rw [rnr_V h hn]; unfold stV; rw [hv]; dsimp only; rw [if_neg h60]; exact g
theorem RUN_rec (hq : sk A n k = q) (hn : nx % 2 = 1) (h7 : nx ≠ 7) (ho : recOp (sgn A n q) = op) (h0 : 0 ≤ op) (hs : stl (bnd op) w c = (w', c')) (g : RUN A n (q + 1) (op :: w') cl vl (nx - 1) D c' r) : RUN A n k w cl vl nx D c r := by
  subst hq
  obtain ⟨f, g⟩ := g
  refine ⟨f + 1, ?_⟩
  rw [rnr_B hn]; unfold stB; rw [if_pos ⟨h7, by rw [ho]; exact h0⟩, ho, hs]; exact g
theorem RUN_cbad (hq : sk A n k = q) (hr : ¬ 0 ≤ recOp (sgn A n q)) (ho : cmpOp (sgn A n q) (decide (sgn A n (q + 1) = 61)) = -1) : RUN A n k w cl vl 3 D c (.error (1 + 8 * q + 0)) := by
  subst hq
  refine ⟨1, ?_⟩
  rw [rnr_B (by decide)]; unfold stB; rw [if_neg (fun h => hr h.2), if_pos rfl, if_pos ho]
theorem RUN_cmany (hq : sk A n k = q) (hr : ¬ 0 ≤ recOp (sgn A n q)) (ho : ¬ cmpOp (sgn A n q) (decide (sgn A n (q + 1) = 61)) = -1) (h60 : 60 ≤ vl) : RUN A n k w cl vl 3 D c (.error (1 + 8 * q + 3)) := by
  subst hq
  refine ⟨1, ?_⟩
  rw [rnr_B (by decide)]; unfold stB; rw [if_neg (fun h => hr h.2), if_pos rfl, if_neg ho, if_pos h60]
theorem RUN_cmp (hq : sk A n k = q) (hr : ¬ 0 ≤ recOp (sgn A n q)) (ho : cmpOp (sgn A n q) (decide (sgn A n (q + 1) = 61)) = op) (h1 : ¬ op = -1) (h60 : ¬ 60 ≤ vl) (he : q + (if op = 13 ∨ op = 15 then 2 else 1) = e) (hs : stl 4 w c = (w', c')) (g : RUN A n e (op :: w') cl (vl + 1) 4 D c' r) : RUN A n k w cl vl 3 D c r := by
  subst hq; subst he
  obtain ⟨f, g⟩ := g
  refine ⟨f + 1, ?_⟩
  rw [rnr_B (by decide)]; unfold stB; rw [if_neg (fun h => hr h.2), if_pos rfl, ho, if_neg h1, if_neg h60, hs]; exact g
theorem RUN_if (hq : sk A n k = q) (hr : ¬ 0 ≤ recOp (sgn A n q)) (hw : wat A n q 26982 = true) (hs : stl 1 w c = (w', c')) (g : RUN A n (lend A n q) w' cl vl 6 D (c'.1, some []) r) : RUN A n k w cl vl 1 D c r := by
  subst hq
  obtain ⟨f, g⟩ := g
  refine ⟨f + 1, ?_⟩
  rw [rnr_B (by decide)]; unfold stB; rw [if_neg (fun h => hr h.2), if_neg (by decide), if_pos ⟨rfl, hw⟩, hs]; exact g
/-- neither a reckoning sign nor a comparison -/
abbrev nrc (A : Int → Int) (n q nx : Int) : Prop := (nx = 7 ∨ ¬ 0 ≤ recOp (sgn A n q)) ∧ (nx = 5 ∨ nx = 7)
theorem RUN_and (hq : sk A n k = q) (hn : nrc A n q nx) (hw : wat A n q 6385252 = true) (hs : stl 2 w c = (w', c')) (g : RUN A n (lend A n q) (17 :: w') cl vl 6 D c' r) : RUN A n k w cl vl nx D c r := by
  subst hq
  obtain ⟨f, g⟩ := g
  have h1 := hn.2
  refine ⟨f + 1, ?_⟩
  rw [rnr_B (by omega)]; unfold stB; rw [if_neg (fun h => hn.1.elim h.1 (fun q => q h.2)), if_neg (by omega), if_neg (fun h => by omega), if_pos ⟨by omega, hw⟩, hs]; exact g
theorem RUN_or (hq : sk A n k = q) (hn : nrc A n q nx) (hw0 : ¬ wat A n q 6385252 = true) (hw : wat A n q 28530 = true) (hs : stl 1 w c = (w', c')) (g : RUN A n (lend A n q) (18 :: w') cl vl 6 D c' r) : RUN A n k w cl vl nx D c r := by
  subst hq
  obtain ⟨f, g⟩ := g
  have h1 := hn.2
  refine ⟨f + 1, ?_⟩
  rw [rnr_B (by omega)]; unfold stB; rw [if_neg (fun h => hn.1.elim h.1 (fun q => q h.2)), if_neg (by omega), if_neg (fun h => by omega), if_neg (fun h => hw0 h.2), if_pos ⟨by omega, hw⟩, hs]; exact g
/-- behind a sum or a fact: nothing that goes on -/
abbrev nmo (A : Int → Int) (n q nx : Int) : Prop := (nx = 1 ∧ ¬ 0 ≤ recOp (sgn A n q) ∧ ¬ wat A n q 26982 = true) ∨ (nrc A n q nx ∧ ¬ wat A n q 6385252 = true ∧ ¬ wat A n q 28530 = true)
theorem stB_rest {R : RCT} (hn : nmo A n (sk A n k) nx) : stB A n R k w cl vl nx D c = if 0 < brn w then (if sgn A n (sk A n k) = 93 then R (sk A n k + 1) (stl 1 w c).1.tail cl vl 7 D (stl 1 w c).2 else some (.error (1 + 8 * sk A n k + 0)))
    else if sgn A n (sk A n k) = 59 then stN A n R (sk A n k + 1) cl vl (D ++ [(stl 1 w c).2]) else if sk A n k < n then some (.error (1 + 8 * sk A n k + 0)) else some (.ok (D ++ [(stl 1 w c).2])) := by
  unfold stB
  rcases hn with ⟨h1, h2, h3⟩ | ⟨⟨h1, h2⟩, h3, h4⟩
  · rw [if_neg (fun h => h2 h.2), if_neg (by omega), if_neg (fun h => h3 h.2), if_neg (fun h => h.1 h1), if_neg (fun h => h.1 h1)]
  · rw [if_neg (fun h => h1.elim h.1 (fun q => q h.2)), if_neg (by omega), if_neg (fun h => by omega), if_neg (fun h => h3 h.2), if_neg (fun h => h4 h.2)]
theorem nmo.odd (h : nmo A n q nx) : nx % 2 = 1 := by
  rcases h with ⟨h, -⟩ | ⟨⟨-, h⟩, -⟩ <;> omega
theorem RUN_close (hq : sk A n k = q) (hn : nmo A n q nx) (hb : 0 < brn w) (hs : sgn A n q = 93) (ht : stl 1 w c = (22 :: w', c')) (g : RUN A n (q + 1) w' cl vl 7 D c' r) : RUN A n k w cl vl nx D c r := by
  subst hq
  obtain ⟨f, g⟩ := g
  refine ⟨f + 1, ?_⟩
  rw [rnr_B hn.odd, stB_rest hn, if_pos hb, if_pos hs, ht]; exact g
theorem RUN_nclose (hq : sk A n k = q) (hn : nmo A n q nx) (hb : 0 < brn w) (hs : ¬ sgn A n q = 93) : RUN A n k w cl vl nx D c (.error (1 + 8 * q + 0)) := by
  subst hq
  refine ⟨1, ?_⟩
  rw [rnr_B hn.odd, stB_rest hn, if_pos hb, if_neg hs]
theorem RUN_semi (hq : sk A n k = q) (hn : nmo A n q nx) (hb : ¬ 0 < brn w) (hs : sgn A n q = 59) (ht : stl 1 w c = (w', c')) (g : RUNN A n (q + 1) cl vl (D ++ [c']) r) : RUN A n k w cl vl nx D c r := by
  subst hq
  obtain ⟨f, g⟩ := g
  refine ⟨f + 1, ?_⟩
  rw [rnr_B hn.odd, stB_rest hn, if_neg hb, if_pos hs, ht]; exact g
theorem RUN_junk (hq : sk A n k = q) (hn : nmo A n q nx) (hb : ¬ 0 < brn w) (hs : ¬ sgn A n q = 59) (hl : q < n) : RUN A n k w cl vl nx D c (.error (1 + 8 * q + 0)) := by
  subst hq
  refine ⟨1, ?_⟩
  rw [rnr_B hn.odd, stB_rest hn, if_neg hb, if_neg hs, if_pos hl]
theorem RUN_end (hq : sk A n k = q) (hn : nmo A n q nx) (hb : ¬ 0 < brn w) (hl : ¬ q < n) (ht : stl 1 w c = (w', c')) : RUN A n k w cl vl nx D c (.ok (D ++ [c'])) := by
  subst hq
  refine ⟨1, ?_⟩
  have hs : ¬ sgn A n (sk A n k) = 59 := by unfold sgn; rw [if_neg hl]; decide
  rw [rnr_B hn.odd, stB_rest hn, if_neg hb, if_neg hs, if_neg hl, ht]
theorem RUNN_bad (hq : sk A n k = q) (hw : ¬ wat A n q 1886745448 = true) : RUNN A n k cl vl D (.error (1 + 8 * q + 0)) := by
  subst hq
  refine ⟨0, ?_⟩
  unfold stN; rw [if_neg hw]
theorem RUNN_many (hq : sk A n k = q) (hw : wat A n q 1886745448 = true) (hc : 12 ≤ cl) : RUNN A n k cl vl D (.error (1 + 8 * q + 4)) := by
  subst hq
  refine ⟨0, ?_⟩
  unfold stN; rw [if_pos hw, if_pos hc]
theorem RUNN_go (hq : sk A n k = q) (hw : wat A n q 1886745448 = true) (hc : ¬ 12 ≤ cl) (g : RUN A n (lend A n q) [] (cl + 1) vl 0 D ([], none) r) : RUNN A n k cl vl D r := by
  subst hq
  obtain ⟨f, g⟩ := g
  refine ⟨f, ?_⟩
  unfold stN; rw [if_pos hw, if_neg hc]; exact g
/-- a sign that will be put down in any case may be put down at once -/
theorem brn_cons (h : op ≠ 22) : brn (op :: w) = brn w := by
  show brn w + (if op = 22 then 1 else 0) = brn w
  rw [if_neg h]; omega
theorem stl_cons {b : Int} (h : b ≤ bnd op) : stl b (op :: w) c = stl b w (emt op c) := by
  show (if _ then _ else _) = _
  rw [if_pos h]
theorem stl_stop {b : Int} (h : ¬ b ≤ bnd op) : stl b (op :: w) c = (op :: w, c) := by
  show (if _ then _ else _) = _
  rw [if_neg h]
theorem RUN_early (hq : sk A n k = q) (hn : nx % 2 = 1) (h1 : nx ≠ 7 → 0 ≤ recOp (sgn A n q) → bnd (recOp (sgn A n q)) ≤ bnd op) (h2 : nx = 3 → 4 ≤ bnd op) (h3 : 2 ≤ bnd op) (g : RUN A n k w cl vl nx D (emt op c) r) : RUN A n k (op :: w) cl vl nx D c r := by
  subst hq
  obtain ⟨f, g⟩ := g
  refine ⟨f, ?_⟩
  have h22 : op ≠ 22 := fun h => by subst h; exact absurd h3 (by decide)
  cases f with
  | zero => exact absurd g (by intro h; cases h)
  | succ f =>
    rw [rnr_B hn] at g ⊢
    rw [← g]
    unfold stB
    by_cases e1 : nx ≠ 7 ∧ 0 ≤ recOp (sgn A n (sk A n k))
    · rw [if_pos e1, if_pos e1, stl_cons (h1 e1.1 e1.2)]
    · rw [if_neg e1, if_neg e1]
      by_cases e2 : nx = 3
      · rw [if_pos e2, if_pos e2, stl_cons (h2 e2)]
      · rw [if_neg e2, if_neg e2, stl_cons (show 1 ≤ bnd op by omega), stl_cons h3, brn_cons h22]
theorem stB_fact {R : RCT} (hn : nrc A n (sk A n k) nx) : stB A n R k w cl vl nx D c = if wat A n (sk A n k) 6385252 = true then R (lend A n (sk A n k)) (17 :: (stl 2 w c).1) cl vl 6 D (stl 2 w c).2 else if wat A n (sk A n k) 28530 = true then R (lend A n (sk A n k)) (18 :: (stl 1 w c).1) cl vl 6 D (stl 1 w c).2
    else if 0 < brn w then (if sgn A n (sk A n k) = 93 then R (sk A n k + 1) (stl 1 w c).1.tail cl vl 7 D (stl 1 w c).2 else some (.error (1 + 8 * sk A n k + 0)))
    else if sgn A n (sk A n k) = 59 then stN A n R (sk A n k + 1) cl vl (D ++ [(stl 1 w c).2]) else if sk A n k < n then some (.error (1 + 8 * sk A n k + 0)) else some (.ok (D ++ [(stl 1 w c).2])) := by
  have h1 := hn.2
  by_cases e1 : wat A n (sk A n k) 6385252 = true
  · unfold stB
    rw [if_neg (fun h => hn.1.elim h.1 (fun q => q h.2)), if_neg (by omega), if_neg (fun h => by omega), if_pos ⟨by omega, e1⟩, if_pos e1]
  · by_cases e2 : wat A n (sk A n k) 28530 = true
    · unfold stB
      rw [if_neg (fun h => hn.1.elim h.1 (fun q => q h.2)), if_neg (by omega), if_neg (fun h => by omega), if_neg (fun h => e1 h.2), if_pos ⟨by omega, e2⟩, if_neg e1, if_pos e2]
    · rw [stB_rest (Or.inr ⟨hn, e1, e2⟩), if_neg e1, if_neg e2]
theorem RUN_57 (hq : sk A n k = q) (hr : ¬ 0 ≤ recOp (sgn A n q)) (g : RUN A n k w cl vl 7 D c r) : RUN A n k w cl vl 5 D c r := by
  subst hq
  obtain ⟨f, g⟩ := g
  refine ⟨f, ?_⟩
  cases f with
  | zero => exact absurd g (by intro h; cases h)
  | succ f =>
    rw [rnr_B (by decide), stB_fact ⟨Or.inl rfl, Or.inr rfl⟩] at g
    rw [rnr_B (by decide), stB_fact ⟨Or.inr hr, Or.inl rfl⟩]
    exact g
theorem RUN_stl3 (hq : sk A n k = q) : ∀ {w : List Int} {c : CLS}, RUN A n k (stl 3 w c).1 cl vl 7 D (stl 3 w c).2 r → RUN A n k w cl vl 7 D c r
  | [], _, g => g
  | op :: t, c, g => by
    by_cases h : 3 ≤ bnd op
    · rw [stl_cons h] at g
      exact RUN_early hq (by decide) (fun h => absurd rfl h) (fun h => absurd h (by decide)) (by omega) (RUN_stl3 hq g)
    · rw [stl_stop h] at g; exact g
end RULES
