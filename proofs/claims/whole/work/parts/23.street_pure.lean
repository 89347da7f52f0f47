/-! a street's text: what its reading keeps -/
theorem pNum_ok {A : Int → Int} {n k lo hi e v : Int} (hk : k ≤ n) (h : pNum A n k lo hi = .ok (e, v)) : lo ≤ v ∧ v ≤ hi ∧ sk A n k < e ∧ e ≤ n := by
  unfold pNum at h
  split at h
  · rename_i hd
    split at h
    · rename_i hr
      cases h
      have hs : dend A n (sk A n k) = dend A n (sk A n k + 1) := rn_step hd.1 hd.2
      have hb := sk_bd A (n := n) (k := k) hk
      have hc := dend_bd A (n := n) (k := sk A n k + 1) (by omega)
      rw [← hs] at hc
      exact ⟨hr.2.1, hr.2.2, by omega, hc.2⟩
    · cases h
  · cases h
theorem pNum_err {A : Int → Int} {n k lo hi w : Int} (h0 : 0 ≤ k) (hk : k ≤ n) (h : pNum A n k lo hi = .error w) : 1 ≤ w ∧ w ≤ 2 + 8 * n := by
  have hb := sk_bd A (n := n) (k := k) hk
  unfold pNum at h
  split at h
  · split at h
    · cases h
    · cases h; omega
  · cases h; omega
def StOK (n : Int) (σ : StS) : Prop :=
  (0 ≤ σ.1 ∧ σ.1 ≤ n) ∧ (0 ≤ σ.2.1 ∧ σ.2.1 ≤ 32) ∧ (0 ≤ σ.2.2.1 ∧ σ.2.2.1 ≤ 12) ∧ (0 ≤ σ.2.2.2.1 ∧ σ.2.2.2.1 ≤ 16) ∧ (0 ≤ σ.2.2.2.2.1 ∧ σ.2.2.2.2.1 ≤ 3) ∧
  (∀ d, 0 ≤ d → d < σ.2.2.1 → 4 ≤ σ.2.2.2.2.2.2.1 (2 * d) ∧ σ.2.2.2.2.2.2.1 (2 * d) ≤ 60 ∧ 0 ≤ σ.2.2.2.2.2.2.1 (2 * d + 1) ∧ σ.2.2.2.2.2.2.1 (2 * d + 1) ≤ σ.2.2.2.2.2.2.1 (2 * d)) ∧
  (∀ j, 0 ≤ j → j < σ.2.2.2.1 → (0 ≤ σ.2.2.2.2.2.2.2 (3 * j) ∧ σ.2.2.2.2.2.2.2 (3 * j) < σ.2.2.1) ∧ (0 ≤ σ.2.2.2.2.2.2.2 (3 * j + 1) ∧ σ.2.2.2.2.2.2.2 (3 * j + 1) < σ.2.2.1) ∧ σ.2.2.2.2.2.2.2 (3 * j) ≠ σ.2.2.2.2.2.2.2 (3 * j + 1) ∧ (0 ≤ σ.2.2.2.2.2.2.2 (3 * j + 2) ∧ σ.2.2.2.2.2.2.2 (3 * j + 2) ≤ 2))
theorem fset_same (f : Int → Int) (i v : Int) : fset f i v i = v := by simp [fset]
theorem fset_ne (f : Int → Int) {i v j : Int} (h : j ≠ i) : fset f i v j = f j := by simp [fset, h]
theorem stDoor_ok {A : Int → Int} {n : Int} {σ σ' : StS} (h0 : StOK n σ) (h : stDoor A n σ.1 σ = .ok σ') : StOK n σ' ∧ σ.1 < σ'.1 := by
  obtain ⟨hk, hl, hD, hJ, hX, hd, hj⟩ := h0
  have hb := lend_bd A (n := n) (k := σ.1) hk.2
  unfold stDoor at h
  split at h
  · cases h
  rename_i h12
  split at h
  · cases h
  rename_i e1 t h1
  obtain ⟨a1, a2, a3, a4⟩ := pNum_ok hb.2 h1
  have hs1 := sk_bd A (n := n) (k := lend A n σ.1) hb.2
  split at h
  · cases h
  rename_i e2 s h2
  obtain ⟨b1, b2, b3, b4⟩ := pNum_ok a4 h2
  have hs2 := sk_bd A (n := n) (k := e1) a4
  cases h
  refine ⟨⟨⟨by dsimp only; omega, by dsimp only; omega⟩, hl, ⟨by dsimp only; omega, by dsimp only; omega⟩, hJ, hX, ?_, ?_⟩, by dsimp only; omega⟩
  · dsimp only
    intro d q0 q1
    by_cases e : d = σ.2.2.1
    · subst e
      rw [fset_same, fset_ne _ (by omega), fset_same]
      exact ⟨a1, a2, b1, b2⟩
    · rw [fset_ne _ (by omega), fset_ne _ (by omega), fset_ne _ (by omega), fset_ne _ (by omega)]
      exact hd d q0 (by omega)
  · dsimp only
    intro j q0 q1
    obtain ⟨x1, x2, x3, x4⟩ := hj j q0 q1
    exact ⟨⟨x1.1, by omega⟩, ⟨x2.1, by omega⟩, x3, x4⟩
theorem stFixed_ok {A : Int → Int} {n : Int} {σ σ' : StS} (h0 : StOK n σ) (h : stFixed A n σ.1 σ = .ok σ') : StOK n σ' ∧ σ.1 < σ'.1 := by
  obtain ⟨hk, hl, hD, hJ, hX, hd, hj⟩ := h0
  have hb := lend_bd A (n := n) (k := σ.1) hk.2
  unfold stFixed at h
  split at h
  · cases h
  rename_i e1 t h1
  obtain ⟨a1, a2, a3, a4⟩ := pNum_ok hb.2 h1
  have hs1 := sk_bd A (n := n) (k := lend A n σ.1) hb.2
  cases h
  exact ⟨⟨⟨by dsimp only; omega, by dsimp only; omega⟩, hl, hD, hJ, hX, hd, hj⟩, by dsimp only; omega⟩
theorem stJoin_ok {A : Int → Int} {n sort : Int} {σ σ' : StS} (hso : 0 ≤ sort ∧ sort ≤ 2) (h0 : StOK n σ) (h : stJoin A n σ.1 sort σ = .ok σ') : StOK n σ' ∧ σ.1 < σ'.1 := by
  obtain ⟨hk, hl, hD, hJ, hX, hd, hj⟩ := h0
  have hb := lend_bd A (n := n) (k := σ.1) hk.2
  unfold stJoin at h
  split at h
  · cases h
  rename_i h12
  split at h
  · cases h
  rename_i e1 a h1
  obtain ⟨a1, a2, a3, a4⟩ := pNum_ok hb.2 h1
  have hs1 := sk_bd A (n := n) (k := lend A n σ.1) hb.2
  split at h
  · cases h
  rename_i e2 b h2
  obtain ⟨b1, b2, b3, b4⟩ := pNum_ok a4 h2
  have hs2 := sk_bd A (n := n) (k := e1) a4
  split at h
  · cases h
  rename_i hne
  cases h
  refine ⟨⟨⟨by dsimp only; omega, by dsimp only; omega⟩, hl, hD, ⟨by dsimp only; omega, by dsimp only; omega⟩, ?_, hd, ?_⟩, by dsimp only; omega⟩
  · dsimp only; split <;> omega
  · dsimp only
    intro j q0 q1
    by_cases e : j = σ.2.2.2.1
    · subst e
      rw [fset_same, fset_ne _ (by omega), fset_ne _ (by omega), fset_same, fset_ne _ (by omega), fset_same]
      exact ⟨⟨a1, by omega⟩, ⟨b1, by omega⟩, fun q => hne q.symm, hso⟩
    · rw [fset_ne _ (by omega), fset_ne _ (by omega), fset_ne _ (by omega), fset_ne _ (by omega), fset_ne _ (by omega), fset_ne _ (by omega), fset_ne _ (by omega), fset_ne _ (by omega), fset_ne _ (by omega)]
      exact hj j q0 (by omega)
theorem stSort_le (A : Int → Int) (n k : Int) : stSort A n k ≤ 2 := by unfold stSort; (repeat' split) <;> decide
theorem stClause_ok {A : Int → Int} {n : Int} {σ σ' : StS} (h0 : StOK n σ) (h : stClause A n σ = .ok σ') : StOK n σ' ∧ σ.1 < σ'.1 := by
  have hb := sk_bd A (n := n) (k := σ.1) h0.1.2
  unfold stClause at h
  split at h
  · rename_i his
    unfold stCl2 at h
    split at h
    · cases h
    · rename_i h32
      have h32 : ¬ σ.2.1 = 32 := h32
      have hok : StOK n (sk A n σ.1, σ.2.1 + 1, σ.2.2) := ⟨⟨by have := h0.1; dsimp only; omega, hb.2⟩, ⟨by have := h0.2.1; dsimp only; omega, by have := h0.2.1; dsimp only; omega⟩, h0.2.2⟩
      split at h
      · obtain ⟨q1, q2⟩ := stDoor_ok hok h
        exact ⟨q1, by have : sk A n σ.1 < σ'.1 := q2; omega⟩
      · rename_i hd
        split at h
        · obtain ⟨q1, q2⟩ := stFixed_ok hok h
          exact ⟨q1, by have : sk A n σ.1 < σ'.1 := q2; omega⟩
        · rename_i hf
          have hso : 0 ≤ stSort A n (sk A n σ.1) := by
            rcases his with q | q | q
            · exact absurd q hd
            · exact absurd q hf
            · exact q
          obtain ⟨q1, q2⟩ := stJoin_ok ⟨hso, stSort_le _ _ _⟩ hok h
          exact ⟨q1, by have : sk A n σ.1 < σ'.1 := q2; omega⟩
  · cases h
theorem stClause_err {A : Int → Int} {n : Int} {σ : StS} {w : Int} (h0 : StOK n σ) (h : stClause A n σ = .error w) : 1 ≤ w ∧ w ≤ 5 + 8 * n := by
  have hb := sk_bd A (n := n) (k := σ.1) h0.1.2
  have hb2 := lend_bd A (n := n) (k := sk A n σ.1) hb.2
  have hk := h0.1
  unfold stClause at h
  split at h
  · unfold stCl2 at h
    split at h
    · cases h; dsimp only; omega
    · split at h
      · unfold stDoor at h
        split at h
        · cases h; dsimp only; omega
        · split at h
          · rename_i h1; cases h; have := pNum_err (by dsimp only; omega) (by exact hb2.2) h1; omega
          · rename_i e1 t h1
            obtain ⟨a1, a2, a3, a4⟩ := pNum_ok (by exact hb2.2) h1
            have hs1 := sk_bd A (n := n) (k := lend A n (sk A n σ.1)) hb2.2
            split at h
            · rename_i h2; cases h; have a3 : sk A n (lend A n (sk A n σ.1)) < e1 := a3; have := pNum_err (by omega) a4 h2; omega
            · cases h
      · split at h
        · unfold stFixed at h
          split at h
          · rename_i h1; cases h; have := pNum_err (by dsimp only; omega) (by exact hb2.2) h1; omega
          · cases h
        · unfold stJoin at h
          split at h
          · cases h; dsimp only; omega
          · split at h
            · rename_i h1; cases h; have := pNum_err (by dsimp only; omega) (by exact hb2.2) h1; omega
            · rename_i e1 t h1
              obtain ⟨a1, a2, a3, a4⟩ := pNum_ok (by exact hb2.2) h1
              have hs1 := sk_bd A (n := n) (k := lend A n (sk A n σ.1)) hb2.2
              have hs2 := sk_bd A (n := n) (k := e1) a4
              have a3 : sk A n (lend A n (sk A n σ.1)) < e1 := a3
              split at h
              · rename_i h2; cases h; have := pNum_err (by omega) a4 h2; omega
              · split at h
                · cases h; omega
                · cases h
  · cases h; omega
def stLoop (A : Int → Int) (n : Int) : Nat → StS → Except Int StS
  | 0, _ => .error 1
  | f + 1, σ =>
    if sk A n σ.1 < n ∧ A (sk A n σ.1) = 59 then
      (match stClause A n (sk A n σ.1 + 1, σ.2) with
      | .error w => .error w
      | .ok σ' => stLoop A n f σ')
    else if sk A n σ.1 < n then .error (1 + 8 * sk A n σ.1 + 0)
    else if σ.2.2.1 = 0 then .error (1 + 8 * sk A n σ.1 + 0) else .ok (sk A n σ.1, σ.2)
/-- a street's text, read -/
def stAll (A : Int → Int) (n : Int) (dr jr : Int → Int) : Except Int StS :=
  match stClause A n (0, 0, 0, 0, 0, 0, dr, jr) with
  | .error w => .error w
  | .ok σ => stLoop A n 401 σ
theorem stLoop_go {A : Int → Int} {n : Int} {f : Nat} {σ σ' : StS} (h : sk A n σ.1 < n ∧ A (sk A n σ.1) = 59) (hc : stClause A n (sk A n σ.1 + 1, σ.2) = .ok σ') : stLoop A n (f + 1) σ = stLoop A n f σ' := by
  rw [stLoop, if_pos h, hc]
theorem stLoop_bad {A : Int → Int} {n : Int} {f : Nat} {σ : StS} {w : Int} (h : sk A n σ.1 < n ∧ A (sk A n σ.1) = 59) (hc : stClause A n (sk A n σ.1 + 1, σ.2) = .error w) : stLoop A n (f + 1) σ = .error w := by
  rw [stLoop, if_pos h, hc]
