/-! what may change -/
def fset (f : Int → Int) (i v : Int) : Int → Int := fun j => if j = i then v else f j
theorem mset_fs (μ : Mem) (c : Nat) (i v : Int) : mset μ c i v c = fset (μ c) i v := mset_row μ c i v
def Fr (Wp : Nat → Int → Prop) (μ μ' : Mem) : Prop := ∀ c i, ¬ Wp c i → μ' c i = μ c i
theorem Fr.refl (Wp : Nat → Int → Prop) (μ : Mem) : Fr Wp μ μ := fun _ _ _ => rfl
theorem Fr.trans {Wp : Nat → Int → Prop} {μ ν ρ : Mem} (h1 : Fr Wp μ ν) (h2 : Fr Wp ν ρ) : Fr Wp μ ρ := fun c i h => (h2 c i h).trans (h1 c i h)
theorem Fr.put {Wp : Nat → Int → Prop} {μ ν : Mem} {c : Nat} {i v : Int} (h : Fr Wp μ ν) (hw : Wp c i) : Fr Wp μ (mset ν c i v) := by
  intro d j hd
  show (if d = c ∧ j = i then v else ν d j) = μ d j
  split
  · rename_i e; rw [e.1, e.2] at hd; exact absurd hw hd
  · exact h d j hd
theorem Fr.wide {W1 W2 : Nat → Int → Prop} {μ ν : Mem} (h : Fr W1 μ ν) (hw : ∀ c i, W1 c i → W2 c i) : Fr W2 μ ν := fun c i hd => h c i (fun q => hd (hw c i q))
theorem Fr.row {Wp : Nat → Int → Prop} {μ ν : Mem} (h : Fr Wp μ ν) {c : Nat} (hc : ∀ i, ¬ Wp c i) : ν c = μ c := funext (fun i => h c i (hc i))
/-- what reading a number may change in the reference -/
abbrev Wnum (c : Nat) (i : Int) : Prop := c = 0 ∧ (i = 13 ∨ i = 14 ∨ i = 15)
theorem mset_idv {μ : Mem} {c : Nat} {i v : Int} (h : μ c i = v) : mset μ c i v = μ := by rw [← h]; exact mset_id μ c i
theorem Rj_eql {Y : Ly} {y : Mt} {pc : Nat} {ls ls' st : List PV} {μ : Mem} {Q : PV → Mem → Prop} (h : ls' = ls) (k : Rj Y y pc ls' st μ Q) : Rj Y y pc ls st μ Q := h ▸ k
/-- division, whole numbers -/
theorem tdiv_bd {a b : Int} (hb : 0 < b) : (0 ≤ a → 0 ≤ a.tdiv b * b ∧ a.tdiv b * b ≤ a) ∧ (a ≤ 0 → a ≤ a.tdiv b * b ∧ a.tdiv b * b ≤ 0) := by
  have h1 := Int.tmod_add_mul_tdiv a b
  rw [Int.mul_comm] at h1
  constructor
  · intro ha
    have h2 := Int.tmod_nonneg b ha
    have h3 : 0 ≤ a.tdiv b := Int.tdiv_nonneg ha (Int.le_of_lt hb)
    have h4 : 0 ≤ a.tdiv b * b := Int.mul_nonneg h3 (Int.le_of_lt hb)
    omega
  · intro ha
    have h2 : a.tmod b ≤ 0 := by
      have := Int.tmod_nonneg b (show 0 ≤ -a by omega)
      rw [Int.neg_tmod] at this; omega
    have h3 : a.tdiv b ≤ 0 := by
      have := Int.tdiv_nonneg (show 0 ≤ -a by omega) (Int.le_of_lt hb)
      rw [Int.neg_tdiv] at this; omega
    have h4 : a.tdiv b * b ≤ 0 := Int.mul_nonpos_of_nonpos_of_nonneg h3 (Int.le_of_lt hb)
    omega
theorem floor_td {a b : Int} (hb : 0 < b) : a / b = if a < a.tdiv b * b then a.tdiv b - 1 else a.tdiv b := by
  have h1 := Int.tmod_add_mul_tdiv a b
  have h2 := tdiv_bd (a := a) hb
  have hlt : a.tmod b < b := Int.tmod_lt_of_pos a hb
  have hgt : -b < a.tmod b := by
    have := Int.tmod_lt_of_pos (-a) hb
    rw [Int.neg_tmod] at this; omega
  split
  · rename_i h
    refine (Int.ediv_emod_unique (r := a.tmod b + b) (q := a.tdiv b - 1) hb).mpr ⟨?_, ?_, ?_⟩ |>.1
    · rw [Int.mul_sub, Int.mul_one]; omega
    · rw [Int.mul_comm] at h1; omega
    · rw [Int.mul_comm] at h1; omega
  · rename_i h
    refine (Int.ediv_emod_unique (r := a.tmod b) (q := a.tdiv b) hb).mpr ⟨?_, ?_, ?_⟩ |>.1
    · omega
    · rw [Int.mul_comm] at h1; omega
    · omega
theorem Rj_pre {Y : Ly} {y : Mt} {pc : Nat} {ls ls' t st : List PV} {μ : Mem} {Q : PV → Mem → Prop} (h : ls' ++ t = ls) (k : Rj Y y pc ls' st μ Q) : Rj Y y pc ls st μ Q := by
  subst h
  exact Rj_loc (fun i v hv _ => by
    have hl := (List.getElem?_eq_some_iff.mp hv).1
    rw [List.getElem?_append_left hl]; exact hv) k
