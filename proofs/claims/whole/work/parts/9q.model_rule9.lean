/-! the reference reads a rule: its clauses -/
/-- the table of clauses, from b on; signs from s on -/
def TB (f : Int → Int) : Int → Int → List CLS → Prop
  | _, _, [] => True
  | b, s, x :: D => (f b = s ∧ f (b + 1) = s + (x.1.length : Int) ∧ f (b + 2) = (if x.2 = none then -1 else s + (x.1.length : Int)) ∧ f (b + 3) = s + ((cuC x).length : Int)) ∧ TB f (b + 4) (s + ((cuC x).length : Int)) D
theorem TB_snoc {f : Int → Int} {x : CLS} : ∀ {D : List CLS} {b s : Int}, TB f b s (D ++ [x]) ↔ TB f b s D ∧ (f (b + 4 * (D.length : Int)) = s + ((flM D).length : Int) ∧ f (b + 4 * (D.length : Int) + 1) = s + ((flM D).length : Int) + (x.1.length : Int) ∧ f (b + 4 * (D.length : Int) + 2) = (if x.2 = none then -1 else s + ((flM D).length : Int) + (x.1.length : Int)) ∧ f (b + 4 * (D.length : Int) + 3) = s + ((flM D).length : Int) + ((cuC x).length : Int))
  | [], b, s => by
    show (_ ∧ True) ↔ True ∧ _
    rw [show b + 4 * ((([] : List CLS).length : Nat) : Int) = b by simp, show s + (((flM []).length : Nat) : Int) = s by simp [flM]]
    exact ⟨fun h => ⟨trivial, h.1⟩, fun h => ⟨h.2, trivial⟩⟩
  | y :: D, b, s => by
    show (_ ∧ TB f (b + 4) (s + ((cuC y).length : Int)) (D ++ [x])) ↔ (_ ∧ TB f (b + 4) (s + ((cuC y).length : Int)) D) ∧ _
    rw [TB_snoc (D := D)]
    have e1 : b + 4 * (((y :: D).length : Nat) : Int) = b + 4 + 4 * (D.length : Int) := by simp; omega
    have e2 : s + (((flM (y :: D)).length : Nat) : Int) = s + ((cuC y).length : Int) + ((flM D).length : Int) := by
      show s + (((cuC y ++ flM D).length : Nat) : Int) = _
      rw [List.length_append]; omega
    rw [e1, e2]
    exact ⟨fun h => ⟨⟨h.1, h.2.1⟩, h.2.2⟩, fun h => ⟨h.1.1, h.1.2, h.2⟩⟩
theorem TB_keep {f g : Int → Int} : ∀ {D : List CLS} {b s : Int}, TB f b s D → (∀ i, b ≤ i → i < b + 4 * (D.length : Int) → g i = f i) → TB g b s D
  | [], _, _, _, _ => trivial
  | x :: D, b, s, h, e => by
    have l : b + 4 * (((x :: D).length : Nat) : Int) = b + 4 + 4 * (D.length : Int) := by simp; omega
    rw [l] at e
    have h1 : f b = s ∧ f (b + 1) = s + (x.1.length : Int) ∧ f (b + 2) = (if x.2 = none then -1 else s + (x.1.length : Int)) ∧ f (b + 3) = s + ((cuC x).length : Int) := h.1
    refine ⟨?_, TB_keep h.2 (fun i i0 i1 => e i (by omega) (by omega))⟩
    rw [e b (by omega) (by omega), e (b + 1) (by omega) (by omega), e (b + 2) (by omega) (by omega), e (b + 3) (by omega) (by omega)]
    exact h1
/-- the reference has read these clauses -/
def TBL (μ : Mem) (t : Int) (D : List CLS) : Prop := TB (μ 4) (48 * t) 0 D ∧ μ 5 t = (D.length : Int)
abbrev Wcl (t : Int) (c : Nat) (i : Int) : Prop := (c = 0 ∧ (i = 13 ∨ i = 14 ∨ i = 15 ∨ i = 17 ∨ i = 18 ∨ i = 19 ∨ i = 21)) ∨ (c = 2 ∧ 400 * t ≤ i ∧ i < 400 * t + 400) ∨ (c = 3 ∧ i = t) ∨ c = 8 ∨ (c = 4 ∧ 48 * t ≤ i ∧ i < 48 * t + 48) ∨ (c = 5 ∧ i = t)
theorem Fr.cl {μ ν : Mem} {t : Int} (f : Fr (Wte t) μ ν) : Fr (Wcl t) μ ν := Fr.wide f (fun c i q => by unfold Wte at q; unfold Wcl; omega)
theorem nM_N (D : List CLS) (c : CLS) : nM (D ++ [c]) ([], none) = nM D c := by
  unfold nM; rw [flM_snoc]; simp
theorem RM.N {μ : Mem} {A : Int → Int} {n t k cl vl : Int} {D : List CLS} {c : CLS} (h : RM μ A n t k cl vl D c) : RM μ A n t k cl vl (D ++ [c]) ([], none) := by
  obtain ⟨hA, hn, hX, hk, hw, ht, hv, hc, hL, hl⟩ := h
  refine ⟨hA, hn, hX, hk, hw, ht, hv, hc, ?_, by rw [nM_N]; exact hl⟩
  rw [flM_snoc, show cuC ([], none) = [] from rfl, List.append_nil]; exact hL
theorem RM.upd3 {μ μ' : Mem} {A : Int → Int} {n t k k' cl cl' vl vl' : Int} {D : List CLS} {c : CLS} (h : RM μ A n t k cl vl D c) (f : Fr (fun c i => (c = 0 ∧ ¬ (i = 1 ∨ i = 14 ∨ i = 16)) ∨ c = 4 ∨ c = 5) μ μ') (a1 : μ' 0 13 = k') (a2 : μ' 0 17 = vl') (a3 : μ' 0 19 = cl') : RM μ' A n t k' cl' vl' D c := by
  obtain ⟨hA, hn, hX, hk, hw, ht, hv, hc, hL, hl⟩ := h
  exact ⟨(f.row (fun i q => by omega)).trans hA, (f 0 1 (by omega)).trans hn, hX, a1, (f 0 14 (by omega)).trans hw, ⟨(f 0 16 (by omega)).trans ht.1, ht.2⟩, a2, a3, LST_keep hL (fun i i0 i1 => f 2 i (by omega)), (f 3 t (by omega)).trans hl⟩
theorem RM.iff {μ : Mem} {A : Int → Int} {n t k cl vl : Int} {D : List CLS} {a : CLS} (ha : a.2 = none) (h : RM μ A n t k cl vl D a) : RM μ A n t k cl vl D (a.1, some []) := by
  unfold RM nM at *
  rw [cuC_if ha]; exact h
theorem nM_flM (D : List CLS) : nM D ([], none) = ((flM D).length : Int) := by unfold nM; simp
