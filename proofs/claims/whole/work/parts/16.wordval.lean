/-! words as numbers -/
theorem zl_shl_8 {v : Int} (h0 : 0 ≤ v) (h1 : v < 36028797018963968) : zl_shl v 8 = v * 256 := by
  obtain ⟨n, rfl⟩ : ∃ n : Nat, v = n := ⟨v.toNat, by omega⟩
  unfold zl_shl
  rw [zN64, show Int32.ofInt 8 = nI 8 from rfl, wb_shl n (by decide)]
  have : (lN (n * 2 ^ 8)).toInt = ((n * 2 ^ 8 : Nat) : Int) := by
    rw [← zN64, o64 ⟨by omega, by omega⟩]
  rw [this]; omega
theorem zl_or_b {v b : Int} (h0 : 0 ≤ v) (h1 : v < 36028797018963968) (h2 : 0 ≤ b) (h3 : b < 256) : zl_or (v * 256) b = 256 * v + b := by
  obtain ⟨n, rfl⟩ : ∃ n : Nat, v = n := ⟨v.toNat, by omega⟩
  obtain ⟨m, rfl⟩ : ∃ m : Nat, b = m := ⟨b.toNat, by omega⟩
  unfold zl_or
  rw [show (n : Int) * 256 = ((n * 256 : Nat) : Int) by omega, zN64, zN64, g_or (k := 8) (p := 256) (by decide) (by omega) (by omega)]
  have : (lN (n * 256 + m)).toInt = ((n * 256 + m : Nat) : Int) := by
    rw [← zN64, o64 ⟨by omega, by omega⟩]
  rw [this]; omega
theorem lval_bd {A : Int → Int} {n k e : Int} (he : lend A n k = e) : ∀ m : Nat, k + m ≤ e → 0 ≤ lval A k m ∧ 2 * lval A k m < 256 ^ m
  | 0, _ => by constructor <;> simp [lval]
  | m + 1, h1 => by
    obtain ⟨a, b⟩ := lval_bd he m (by omega)
    have hd := (rn_all (p := isLt A) (n := n) (k := k) (j := k + m) (by omega) (by unfold lend at he; omega)).2
    simp only [decide_eq_true_eq] at hd
    rw [show lval A k (m + 1) = 256 * lval A k m + A (k + m) from rfl, Int.pow_succ]
    omega
/-- is just the word w at k -/
def wat (A : Int → Int) (n k w : Int) : Bool := decide (0 < lend A n k - k ∧ lend A n k - k < 8 ∧ lval A k (lend A n k - k).toNat = w)
/-- the letters a word is made of, and its number -/
def wnum : List Int → Int := fun l => l.foldl (fun a b => 256 * a + b) 0
def watL (A : Int → Int) (n k : Int) (l : List Int) : Prop := (∀ i : Nat, i < l.length → k + i < n ∧ A (k + i) = l.getD i 0) ∧ ¬ (k + l.length < n ∧ isLt A (k + l.length) = true)
theorem wnum_lval {A : Int → Int} {k : Int} : ∀ (l : List Int), (∀ i : Nat, i < l.length → A (k + i) = l.getD i 0) → lval A k l.length = wnum l := by
  intro l
  suffices h : ∀ (m : Nat), m ≤ l.length → (∀ i : Nat, i < l.length → A (k + i) = l.getD i 0) → lval A k m = wnum (l.take m) by
    intro h2
    have := h l.length (Nat.le_refl _) h2
    rwa [List.take_length] at this
  intro m
  induction m with
  | zero => intro _ _; simp [lval, wnum]
  | succ m ih =>
    intro hm h2
    rw [show lval A k (m + 1) = 256 * lval A k m + A (k + m) from rfl, ih (by omega) h2, h2 m (by omega)]
    have : l.take (m + 1) = l.take m ++ [l.getD m 0] := by
      rw [List.take_succ]
      congr 1
      rw [List.getD_eq_getElem?_getD, List.getElem?_eq_getElem (by omega)]
      rfl
    rw [this]
    unfold wnum
    rw [List.foldl_append]
    rfl
theorem wnum_nn : ∀ (l : List Int), (∀ y ∈ l, 97 ≤ y ∧ y ≤ 122) → 0 ≤ wnum l := by
  have : ∀ (l : List Int) (a : Int), 0 ≤ a → (∀ y ∈ l, 97 ≤ y ∧ y ≤ 122) → 0 ≤ l.foldl (fun a b => 256 * a + b) a := by
    intro l
    induction l with
    | nil => intro a ha _; exact ha
    | cons z t iht =>
      intro a ha hh
      have := hh z (by simp)
      exact iht _ (show 0 ≤ 256 * a + z by omega) (fun y hy => hh y (by simp [hy]))
  exact fun l h => this l 0 (by decide) h
theorem lval_inj {A : Int → Int} {k : Int} : ∀ (m : Nat) (l : List Int), (∀ x ∈ l, 97 ≤ x ∧ x ≤ 122) → (∀ i : Nat, i < m → 97 ≤ A (k + i) ∧ A (k + i) ≤ 122) → lval A k m = wnum l → m = l.length ∧ ∀ i : Nat, i < l.length → A (k + i) = l.getD i 0 := by
  intro m
  induction m with
  | zero =>
    intro l hl hA h
    rcases List.eq_nil_or_concat l with rfl | ⟨L, x, rfl⟩
    · exact ⟨rfl, fun i hi => by simp at hi⟩
    · exfalso
      have hx := hl x (by simp)
      have hw : wnum (L ++ [x]) = 256 * wnum L + x := by unfold wnum; rw [List.foldl_append]; rfl
      have := wnum_nn L (fun y hy => hl y (by simp [hy]))
      first | rw [hw] at h | (rw [List.concat_eq_append, hw] at h)
      simp [lval] at h
      omega
  | succ m ih =>
    intro l hl hA h
    have h1 := hA m (by omega)
    rw [show lval A k (m + 1) = 256 * lval A k m + A (k + m) from rfl] at h
    have h0 : ∀ q : Nat, q ≤ m → 0 ≤ lval A k q := by
      intro q hq
      induction q with
      | zero => simp [lval]
      | succ q ihq =>
        rw [show lval A k (q + 1) = 256 * lval A k q + A (k + q) from rfl]
        have := ihq (by omega); have := hA q (by omega); omega
    have h00 := h0 m (Nat.le_refl _)
    rcases List.eq_nil_or_concat l with rfl | ⟨L, x, rfl⟩
    · exfalso
      simp [wnum] at h
      omega
    · have hx := hl x (by simp)
      have hw : wnum (L ++ [x]) = 256 * wnum L + x := by unfold wnum; rw [List.foldl_append]; rfl
      first | rw [hw] at h | (rw [List.concat_eq_append, hw] at h)
      obtain ⟨e1, e2⟩ := ih L (fun y hy => hl y (by simp [hy])) (fun i hi => hA i (by omega)) (by omega)
      subst e1
      refine ⟨by simp, fun i hi => ?_⟩
      have hi : i < L.length + 1 := by simpa using hi
      by_cases hlt : i < L.length
      · rw [e2 i hlt]
        simp [List.getD_eq_getElem?_getD, List.getElem?_append_left hlt]
      · have : i = L.length := by omega
        subst this
        simp [List.getD_eq_getElem?_getD]
        omega
/-- the two readings of a word -/
theorem wat_iff {A : Int → Int} {n k : Int} {l : List Int} (h0 : l ≠ []) (h7 : l.length < 8) (hl : ∀ x ∈ l, 97 ≤ x ∧ x ≤ 122) : wat A n k (wnum l) = true ↔ watL A n k l := by
  unfold wat watL
  rw [decide_eq_true_eq]
  have hge := rn_ge (isLt A) n k
  have hlen : 0 < l.length := List.length_pos_iff.mpr h0
  constructor
  · rintro ⟨h1, h2, h3⟩
    obtain ⟨e1, e2⟩ := lval_inj (lend A n k - k).toNat l hl (fun i hi => by
      have := (rn_all (p := isLt A) (n := n) (k := k) (j := k + i) (by omega) (show k + i < lend A n k by omega)).2
      simpa using this) h3
    have e3 : k + (l.length : Int) = lend A n k := by omega
    refine ⟨fun i hi => ⟨(rn_all (p := isLt A) (n := n) (k := k) (j := k + i) (by omega) (show k + i < lend A n k by omega)).1, e2 i hi⟩, ?_⟩
    rw [e3]; exact rn_end _ n k
  · rintro ⟨h1, h2⟩
    have e : lend A n k = k + l.length := by
      refine rn_uniq (by omega) (fun j hj1 hj2 => ?_) h2
      obtain ⟨q1, q2⟩ := h1 (j - k).toNat (by omega)
      rw [show k + ((j - k).toNat : Int) = j by omega] at q1 q2
      refine ⟨q1, ?_⟩
      have hm : (j - k).toNat < l.length := by omega
      have := hl (l.getD (j - k).toNat 0) (by rw [List.getD_eq_getElem?_getD, List.getElem?_eq_getElem hm]; exact List.getElem_mem hm)
      simp only [decide_eq_true_eq]
      omega
    rw [e]
    refine ⟨by omega, by omega, ?_⟩
    rw [show (k + (l.length : Int) - k).toNat = l.length by omega]
    exact wnum_lval l (fun i hi => (h1 i hi).2)
