/-! what may change -/
def fset (f : Int → Int) (i v : Int) : Int → Int := fun j => if j = i then v else f j
theorem mset_fs (μ : Mem) (c : Nat) (i v : Int) : mset μ c i v c = fset (μ c) i v := mset_row μ c i v
def Fr (Wp : Nat → Int → Prop) (μ μ' : Mem) : Prop := ∀ c i, ¬ Wp c i → μ' c i = μ c i
theorem Fr.refl (Wp : Nat → Int → Prop) (μ : Mem) : Fr Wp μ μ := fun _ _ _ => rfl
theorem Fr.trans {Wp : Nat → Int → Prop} {μ ν ρ : Mem} (h1 : Fr Wp μ ν) (h2 : Fr Wp ν ρ) : Fr Wp μ ρ := fun c i h => (h2 c i h).trans (h1 c i h)
theorem Fr.put {Wp : Nat → Int → Prop} {μ ν : Mem} {c : Nat} {i v : Int} (h : Fr Wp μ ν) (hw : Wp c i) : Fr Wp μ (mset ν c i v) := by
  intro d j hd
  show (if d = c ∧ j = i then v else ν d j) = μ d j
  split
  · rename_i e; rw [e.1, e.2] at hd; exact absurd hw hd
  · exact h d j hd
theorem Fr.wide {W1 W2 : Nat → Int → Prop} {μ ν : Mem} (h : Fr W1 μ ν) (hw : ∀ c i, W1 c i → W2 c i) : Fr W2 μ ν := fun c i hd => h c i (fun q => hd (hw c i q))
theorem Fr.row {Wp : Nat → Int → Prop} {μ ν : Mem} (h : Fr Wp μ ν) {c : Nat} (hc : ∀ i, ¬ Wp c i) : ν c = μ c := funext (fun i => h c i (hc i))
/-- what reading a number may change in the reference -/
abbrev Wnum (c : Nat) (i : Int) : Prop := c = 0 ∧ (i = 13 ∨ i = 14 ∨ i = 15)
theorem mset_idv {μ : Mem} {c : Nat} {i v : Int} (h : μ c i = v) : mset μ c i v = μ := by rw [← h]; exact mset_id μ c i
