/-! the search by states: pure -/
/-- states: their numbers, where they came from, by which push; how many -/
abbrev BS : Type := (Int → Int) × (Int → Int) × (Int → Int) × Int
def bsA (σ : BS) (b k c : Int) : BS := (fset σ.1 σ.2.2.2 b, fset σ.2.1 σ.2.2.2 k, fset σ.2.2.1 σ.2.2.2 c, σ.2.2.2 + 1)
noncomputable def knB (σ : BS) (b : Int) : Bool := @decide (KN σ.1 σ.2.2.2 b) (Classical.propDecidable _)
theorem knB_t {σ : BS} {b : Int} : knB σ b = true ↔ KN σ.1 σ.2.2.2 b := by unfold knB; exact @decide_eq_true_iff _ (Classical.propDecidable _)
/-- all pushes of one door from the state k on -/
noncomputable def spr (SB WB : Int → Bool) (st x k d : Int) : Nat → Int → BS → (BS × Int) ⊕ BS
  | 0, _, σ => .inr σ
  | f + 1, n, σ => if 60 < n then .inr σ else
      if n = 0 ∨ knB σ (x + n * st) = true ∨ SB (x + n * st) = false then spr SB WB st x k d f (n + 1) σ else
      if σ.2.2.2 = 2000 then .inl (σ, -3) else
      if WB (x + n * st) = true then .inl (bsA σ (x + n * st) k (1000 * d + 100 + n), σ.2.2.2) else spr SB WB st x k d f (n + 1) (bsA σ (x + n * st) k (1000 * d + 100 + n))
noncomputable def drs (SB WB : Int → Bool) (al : Int → Bool) (st : Int → Int) (D k : Int) : Nat → Int → BS → (BS × Int) ⊕ BS
  | 0, _, σ => .inr σ
  | f + 1, d, σ => if d < D then (if al d = true then (match spr SB WB (st d) (σ.1 k) k d 122 (-60) σ with
      | .inl r => .inl r
      | .inr σ' => drs SB WB al st D k f (d + 1) σ') else drs SB WB al st D k f (d + 1) σ) else .inr σ
noncomputable def sts (SB WB : Int → Bool) (al : Int → Bool) (st : Int → Int) (D : Int) : Nat → Int → BS → BS × Int
  | 0, _, σ => (σ, -2)
  | f + 1, k, σ => if k < σ.2.2.2 then (match drs SB WB al st D k 13 0 σ with
      | .inl r => r
      | .inr σ' => sts SB WB al st D f (k + 1) σ') else (σ, -2)
/-- one more state, or more: what was there stays -/
def bsE (σ τ : BS) : Prop := σ.2.2.2 ≤ τ.2.2.2 ∧ ∀ s, s < σ.2.2.2 → τ.1 s = σ.1 s ∧ τ.2.1 s = σ.2.1 s ∧ τ.2.2.1 s = σ.2.2.1 s
theorem bsE.refl (σ : BS) : bsE σ σ := ⟨Int.le_refl _, fun _ _ => ⟨rfl, rfl, rfl⟩⟩
theorem bsE.trans {σ τ ρ : BS} (h : bsE σ τ) (g : bsE τ ρ) : bsE σ ρ := by
  refine ⟨Int.le_trans h.1 g.1, fun s hs => ?_⟩
  have a := h.2 s hs
  have b := g.2 s (by have := h.1; omega)
  exact ⟨b.1.trans a.1, b.2.1.trans a.2.1, b.2.2.trans a.2.2⟩
theorem bsE.add (σ : BS) (b k c : Int) : bsE σ (bsA σ b k c) := by
  refine ⟨by show σ.2.2.2 ≤ σ.2.2.2 + 1; omega, fun s hs => ?_⟩
  unfold bsA
  dsimp only
  rw [fset_ne _ (by omega), fset_ne _ (by omega), fset_ne _ (by omega)]
  exact ⟨rfl, rfl, rfl⟩
theorem bsE.kn {σ τ : BS} (h : bsE σ τ) {b : Int} (q : knB σ b = true) : knB τ b = true := by
  obtain ⟨s, s0, s1, s2⟩ := knB_t.mp q
  exact knB_t.mpr ⟨s, s0, by have := h.1; omega, by rw [(h.2 s s1).1]; exact s2⟩
theorem bsA_kn {σ : BS} {b k c : Int} (h : 0 ≤ σ.2.2.2) : knB (bsA σ b k c) b = true :=
  knB_t.mpr ⟨σ.2.2.2, h, by show σ.2.2.2 < σ.2.2.2 + 1; omega, by unfold bsA; dsimp only; rw [fset_same]⟩
theorem spr_ok {SB WB : Int → Bool} {st x k d : Int} : ∀ (f : Nat) (n : Int) (σ τ : BS), 0 ≤ σ.2.2.2 → (61 - n).toNat ≤ f → spr SB WB st x k d f n σ = .inr τ → bsE σ τ ∧ ∀ n', n ≤ n' → n' ≤ 60 → n' ≠ 0 → knB τ (x + n' * st) = true ∨ SB (x + n' * st) = false
  | 0, n, σ, τ, hm, hf, h => by
    unfold spr at h
    cases h
    exact ⟨bsE.refl _, fun n' h1 h2 => by omega⟩
  | f + 1, n, σ, τ, hm, hf, h => by
    unfold spr at h
    by_cases c1 : 60 < n
    · rw [if_pos c1] at h
      cases h
      exact ⟨bsE.refl _, fun n' h1 h2 => by omega⟩
    · rw [if_neg c1] at h
      by_cases c2 : n = 0 ∨ knB σ (x + n * st) = true ∨ SB (x + n * st) = false
      · rw [if_pos c2] at h
        obtain ⟨e, q⟩ := spr_ok f (n + 1) σ τ hm (by omega) h
        refine ⟨e, fun n' h1 h2 h3 => ?_⟩
        by_cases e2 : n' = n
        · subst e2
          rcases c2 with c | c | c
          · exact absurd c h3
          · exact Or.inl (e.kn c)
          · exact Or.inr c
        · exact q n' (by omega) h2 h3
      · rw [if_neg c2] at h
        by_cases c3 : σ.2.2.2 = 2000
        · rw [if_pos c3] at h; cases h
        · rw [if_neg c3] at h
          by_cases c4 : WB (x + n * st) = true
          · rw [if_pos c4] at h; cases h
          · rw [if_neg c4] at h
            obtain ⟨e, q⟩ := spr_ok f (n + 1) _ τ (by show 0 ≤ σ.2.2.2 + 1; omega) (by omega) h
            refine ⟨(bsE.add _ _ _ _).trans e, fun n' h1 h2 h3 => ?_⟩
            by_cases e2 : n' = n
            · subst e2
              exact Or.inl (e.kn (bsA_kn hm))
            · exact q n' (by omega) h2 h3
theorem spr_idle {SB WB : Int → Bool} {st x k d : Int} : ∀ (f : Nat) (n : Int) (σ : BS), (∀ n', n ≤ n' → n' ≤ 60 → n' ≠ 0 → knB σ (x + n' * st) = true ∨ SB (x + n' * st) = false) → spr SB WB st x k d f n σ = .inr σ
  | 0, n, σ, _ => rfl
  | f + 1, n, σ, h => by
    unfold spr
    by_cases c1 : 60 < n
    · rw [if_pos c1]
    · rw [if_neg c1]
      have c2 : n = 0 ∨ knB σ (x + n * st) = true ∨ SB (x + n * st) = false := by
        by_cases e : n = 0
        · exact Or.inl e
        · exact Or.inr (h n (Int.le_refl _) (by omega) e)
      rw [if_pos c2]
      exact spr_idle f (n + 1) σ (fun n' h1 => h n' (by omega))
/-- doors as quick as an earlier one add nothing -/
theorem drs_alike {SB WB : Int → Bool} {al al' : Int → Bool} {st : Int → Int} {D k : Int} (h1 : ∀ d, 0 ≤ d → al' d = true → al d = true) (h2 : ∀ d, 0 ≤ d → al d = true → al' d = true ∨ ∃ e, 0 ≤ e ∧ e < d ∧ al' e = true ∧ (st d = st e ∨ st d = -st e)) :
    ∀ (f : Nat) (d : Int) (σ : BS), 0 ≤ d → 0 ≤ k → k < σ.2.2.2 → (∀ e, 0 ≤ e → e < d → al' e = true → ∀ n, -60 ≤ n → n ≤ 60 → n ≠ 0 → knB σ (σ.1 k + n * st e) = true ∨ SB (σ.1 k + n * st e) = false) → drs SB WB al' st D k f d σ = drs SB WB al st D k f d σ
  | 0, d, σ, _, _, _, _ => rfl
  | f + 1, d, σ, d0, k0, k1, hd => by
    have hm : 0 ≤ σ.2.2.2 := by omega
    unfold drs
    by_cases c1 : d < D
    · rw [if_pos c1, if_pos c1]
      by_cases c2 : al' d = true
      · rw [if_pos c2, if_pos (h1 d d0 c2)]
        cases hs : spr SB WB (st d) (σ.1 k) k d 122 (-60) σ with
        | inl r => rfl
        | inr τ =>
          dsimp only
          obtain ⟨e, q⟩ := spr_ok 122 (-60) σ τ hm (by decide) hs
          have ek : τ.1 k = σ.1 k := (e.2 k k1).1
          refine drs_alike h1 h2 f (d + 1) τ (by omega) k0 (by have := e.1; omega) (fun e' e0 e1 ea n n0 n1 n2 => ?_)
          rw [ek]
          by_cases e3 : e' = d
          · rw [e3]; exact q n n0 n1 n2
          · rcases hd e' e0 (by omega) ea n n0 n1 n2 with r | r
            · exact Or.inl (e.kn r)
            · exact Or.inr r
      · rw [if_neg c2]
        have ih := drs_alike (SB := SB) (WB := WB) (D := D) (k := k) h1 h2 f (d + 1) σ (by omega) k0 k1 (fun e' e0 e1 ea n n0 n1 n2 => by
          by_cases e3 : e' = d
          · rw [e3] at ea; exact absurd ea c2
          · exact hd e' e0 (by omega) ea n n0 n1 n2)
        by_cases c3 : al d = true
        · rw [if_pos c3]
          obtain ⟨e, e0, e1, ea, es⟩ := (h2 d d0 c3).resolve_left c2
          have hid : spr SB WB (st d) (σ.1 k) k d 122 (-60) σ = .inr σ := spr_idle 122 (-60) σ (fun n n0 n1 n2 => by
            rcases es with es | es
            · rw [es]; exact hd e e0 e1 ea n n0 n1 n2
            · have := hd e e0 e1 ea (-n) (by omega) (by omega) (by omega)
              rw [es, Int.mul_neg, ← Int.neg_mul]; exact this)
          rw [hid]
          exact ih
        · rw [if_neg c3]; exact ih
    · rw [if_neg c1, if_neg c1]
theorem drs_E {SB WB : Int → Bool} {al : Int → Bool} {st : Int → Int} {D k : Int} : ∀ (f : Nat) (d : Int) (σ τ : BS), 0 ≤ σ.2.2.2 → drs SB WB al st D k f d σ = .inr τ → bsE σ τ
  | 0, d, σ, τ, _, h => by unfold drs at h; cases h; exact bsE.refl _
  | f + 1, d, σ, τ, hm, h => by
    unfold drs at h
    by_cases c1 : d < D
    · rw [if_pos c1] at h
      by_cases c2 : al d = true
      · rw [if_pos c2] at h
        cases hs : spr SB WB (st d) (σ.1 k) k d 122 (-60) σ with
        | inl r => rw [hs] at h; cases h
        | inr ρ =>
          rw [hs] at h
          obtain ⟨e, -⟩ := spr_ok 122 (-60) σ ρ hm (by decide) hs
          exact e.trans (drs_E f (d + 1) ρ τ (by have := e.1; omega) h)
      · rw [if_neg c2] at h
        exact drs_E f (d + 1) σ τ hm h
    · rw [if_neg c1] at h; cases h; exact bsE.refl _
theorem sts_alike {SB WB : Int → Bool} {al al' : Int → Bool} {st : Int → Int} {D : Int} (h1 : ∀ d, 0 ≤ d → al' d = true → al d = true) (h2 : ∀ d, 0 ≤ d → al d = true → al' d = true ∨ ∃ e, 0 ≤ e ∧ e < d ∧ al' e = true ∧ (st d = st e ∨ st d = -st e)) : ∀ (f : Nat) (k : Int) (σ : BS), 0 ≤ k → sts SB WB al' st D f k σ = sts SB WB al st D f k σ
  | 0, k, σ, _ => rfl
  | f + 1, k, σ, k0 => by
    unfold sts
    by_cases c1 : k < σ.2.2.2
    · rw [if_pos c1, if_pos c1, drs_alike h1 h2 13 0 σ (by decide) k0 c1 (fun e e0 e1 => by omega)]
      cases hs : drs SB WB al st D k 13 0 σ with
      | inl r => rfl
      | inr τ => exact sts_alike h1 h2 f (k + 1) τ (by omega)
    · rw [if_neg c1, if_neg c1]
