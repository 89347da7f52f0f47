/-! THE PURE WORLD: a method is run over numbers (Int) in a memory μ of cells; Rj says so of the machine, for every launch, heap and frame -/
abbrev PV : Type := Nat × Int
abbrev vI (z : Int) : PV := (1, z)
abbrev vL (z : Int) : PV := (2, z)
abbrev vA (c : Int) : PV := (3, c)
abbrev vK (k : Int) : PV := (4, k)
/-- the bytes of a text; a bare address -/
abbrev vB (k : Int) : PV := (5, k)
abbrev vR (k : Int) : PV := (6, k)
abbrev vU : PV := (0, 0)
abbrev Mem : Type := Nat → Int → Int
def mset (μ : Mem) (c : Nat) (i v : Int) : Mem := fun c' i' => if c' = c ∧ i' = i then v else μ c' i'
/-- a method: name, bytes, locals, answer's type, frames below it, words below it -/
abbrev Mt : Type := MethodName × ByteArray × Nat × Option FieldType × Nat × Nat
abbrev rmOf (y : Mt) : Room := { frames := y.2.2.2.2.1, cells := 0, slots := 0, locals := y.2.2.2.2.2 }
/-- cells: how many; an array (type, length) or an object (class, fields, kinds of fields); what rows of objects hold -/
abbrev Ly : Type := Nat × (Nat → (FieldType × Nat) ⊕ (Nat × Nat × (Nat → Option (Option Nat)))) × (Nat → Nat → Nat)
/-- where things lie: cells, texts, their bytes, array classes, classes, slots -/
abbrev Gd : Type := (Nat → Nat) × (Nat → Nat) × (Nat → Nat) × (Nat → ClassId) × (Nat → ClassId) × (Nat → Nat → Nat)
def pv (G : Gd) (v : PV) : Value := match v.1 with
  | 1 => .int (Int32.ofInt v.2)
  | 2 => .long (Int64.ofInt v.2)
  | 3 => .ref (G.1 v.2.toNat)
  | 4 => .ref (G.2.1 v.2.toNat)
  | 5 => .ref (G.2.2.1 v.2.toNat)
  | 6 => .ref v.2.toNat
  | _ => .null
def pvo (G : Gd) (v : PV) : Option Value := if v.1 = 0 then none else some (pv G v)
theorem pv_I (G : Gd) (z : Int) : pv G (vI z) = .int (Int32.ofInt z) := rfl
theorem pv_L (G : Gd) (z : Int) : pv G (vL z) = .long (Int64.ofInt z) := rfl
theorem pv_A (G : Gd) (c : Int) : pv G (vA c) = .ref (G.1 c.toNat) := rfl
theorem pv_K (G : Gd) (c : Int) : pv G (vK c) = .ref (G.2.1 c.toNat) := rfl
def toL (G : Gd) (ls : List PV) : List (Nat × Value) := (ls.zipIdx.filter (fun q => !(q.1.1 == 0))).map (fun q => (q.2, pv G q.1))
theorem toL_mem {G : Gd} {ls : List PV} {q : Nat × Value} : q ∈ toL G ls ↔ ∃ v : PV, ls[q.1]? = some v ∧ v.1 ≠ 0 ∧ q.2 = pv G v := by
  unfold toL
  rw [List.mem_map]
  constructor
  · rintro ⟨⟨v, i⟩, h1, rfl⟩
    obtain ⟨h1, h2⟩ := List.mem_filter.mp h1
    exact ⟨v, List.mem_zipIdx_iff_getElem?.mp h1, by simpa using h2, rfl⟩
  · rintro ⟨v, h1, h2, h3⟩
    exact ⟨(v, q.1), List.mem_filter.mpr ⟨List.mem_zipIdx_iff_getElem?.mpr h1, by simpa using h2⟩, by rw [← h3]⟩
/-- the words -/
def tw_nest : Cond → Bool
  | .fieldLinkNest .. => true
  | .methodLinkNest .. => true
  | _ => false
def tw_ok (w : Cond) : Bool := (w.onTables && w.keeps) || tw_nest w
theorem tw_on {w : Cond} (h : tw_ok w = true) : w.onTables = true := by
  unfold tw_ok at h
  rw [Bool.or_eq_true, Bool.and_eq_true] at h
  rcases h with h | h
  · exact h.1
  · cases w <;> simp_all [tw_nest] <;> rfl
def TW (s : State) : Prop := ∀ w ∈ lw_tbl, tw_ok w = true → ∀ a, w.before a s = true
theorem TW.same {u U : State} (h : u.vm = U.vm) (hT : TW u) : TW U := fun w hw ok a => va_tabs (tw_on ok) h (hT w hw ok #[])
theorem TW.warm {s U : State} (hW : s.WarmedH U.vm) (hT : TW s) : TW U := by
  intro w hw ok a
  have ok0 := ok
  unfold tw_ok at ok
  rw [Bool.or_eq_true] at ok
  rcases ok with ok | ok
  · exact word_at hW (Or.inl ok) (hT w hw ok0 #[])
  · cases w with
    | fieldLinkNest => exact va_Nw.use rfl (va_Nw.warmF hW (hT _ hw ok0 #[]))
    | methodLinkNest => exact va_Nw.use rfl (va_Nw.warmM hW (hT _ hw ok0 #[]))
    | _ => simp [tw_nest] at ok
/-- the texts -/
def sLen : List Nat := [4, 4, 4, 4, 5, 4, 3, 5, 4, 5, 4, 5, 5, 6, 2, 3, 2]
def sByt : List (List Int32) := [[109, 101, 115, 104], [98, 101, 108, 116], [97, 120, 108, 101], [100, 111, 111, 114], [102, 105, 120, 101, 100], [112, 117, 115, 104], [110, 111, 116], [116, 101, 101, 116, 104], [115, 112, 97, 110], [112, 108, 97, 99, 101], [111, 112, 101, 110], [111, 112, 101, 110, 115], [106, 111, 105, 110, 115], [99, 111, 109, 105, 110, 103], [105, 102], [97, 110, 100], [111, 114]]
def sTab : List (String × Nat × String × Nat) := [("DoorsOnCogs$StreetReader", 68, "mesh", 0), ("DoorsOnCogs$StreetReader", 74, "belt", 1), ("DoorsOnCogs$StreetReader", 76, "axle", 2), ("DoorsOnCogs$StreetReader", 78, "door", 3), ("DoorsOnCogs$StreetReader", 80, "fixed", 4), ("DoorsOnCogs$RuleReader", 63, "push", 5), ("DoorsOnCogs$RuleReader", 83, "not", 6), ("DoorsOnCogs$RuleBook", 101, "door", 3), ("DoorsOnCogs$RuleBook", 103, "teeth", 7), ("DoorsOnCogs$RuleBook", 104, "span", 8), ("DoorsOnCogs$RuleBook", 105, "place", 9), ("DoorsOnCogs$RuleBook", 107, "open", 10), ("DoorsOnCogs$RuleBook", 109, "opens", 11), ("DoorsOnCogs$RuleBook", 111, "joins", 12), ("DoorsOnCogs$RuleBook", 113, "coming", 13), ("DoorsOnCogs$RuleReader", 125, "if", 14), ("DoorsOnCogs$RuleReader", 130, "and", 15), ("DoorsOnCogs$RuleReader", 132, "or", 16)]
def SK (G : Gd) (A : Nat → Prop) (s : State) (H : Heap) : Prop :=
  vk_S 17 sLen sByt G.2.1 G.2.2.1 A s H ∧ (∀ q ∈ sTab, vk_R q.1 q.2.1 q.2.2.1 (G.2.1 q.2.2.2) s) ∧ va_Z "java/lang/String" "COMPACT_STRINGS" "Z" (.int 1) A s H ∧ va_Zq "jdk/internal/util/Preconditions" "SIOOBE_FORMATTER" "Ljava/util/function/BiFunction;" A s H
theorem SK.moved {G : Gd} {A : Nat → Prop} {s U : State} {H : Heap} (hW : s.WarmedH U.vm) (h : SK G A s H) : SK G A U H :=
  ⟨h.1.moved hW.alike, fun q hq => (h.2.1 q hq).warm hW, h.2.2.1.moved hW.alike, h.2.2.2.moved hW.alike⟩
theorem SK.kept {G : Gd} {A : Nat → Prop} {s : State} {H H1 : Heap} (h : SK G A s H) (hq : ∀ a : Nat, a < H.size → ¬ A a → H1[a]? = H[a]?) : SK G A s H1 :=
  ⟨h.1.kept hq, h.2.1, h.2.2.1.kept hq, h.2.2.2.kept hq⟩
/-- the cells -/
def fv (G : Gd) (k : Option (Option Nat)) (z : Int) : Value := match k with
  | none => .int (Int32.ofInt z)
  | some none => .long (Int64.ofInt z)
  | some (some c) => .ref (G.1 c)
def arC (Y : Ly) (G : Gd) (ty : FieldType) (f : Int → Int) (i : Nat) : (Nat → Int32) ⊕ (Nat → Int64) ⊕ (Nat → UInt32) ⊕ (Nat → UInt64) ⊕ (Nat → Option Nat) := match ty with
  | .long => .inr (.inl (fun j => Int64.ofInt (f j)))
  | .object _ => .inr (.inr (.inr (.inr (fun j => some (G.1 (Y.2.2 i j))))))
  | _ => .inl (fun j => Int32.ofInt (f j))
def wC (Y : Ly) (G : Gd) (f : Int → Int) (i : Nat) : va_E := match Y.2.1 i with
  | .inl (ty, n) => .inl (G.2.2.2.1 i, n, arC Y G ty f i)
  | .inr (ci, n, fk) => .inr (ci, (List.range n).map (fun k => fv G (fk k) (f k)))
def wld (Y : Ly) (G : Gd) (μ : Mem) : va_W := (List.range Y.1).map (fun i => (G.1 i, wC Y G (μ i) i))
theorem wld_get {Y : Ly} {G : Gd} {μ : Mem} {i : Nat} (h : i < Y.1) : (wld Y G μ)[i]? = some (G.1 i, wC Y G (μ i) i) := by
  simp [wld, h]
theorem wld_len (Y : Ly) (G : Gd) (μ : Mem) : (wld Y G μ).length = Y.1 := by simp [wld]
theorem wld_set {Y : Ly} {G : Gd} {μ ν : Mem} {i : Nat} {e : va_E} (hi : i < Y.1) (he : e = wC Y G (ν i) i) (hj : ∀ j, j ≠ i → ν j = μ j) : (wld Y G μ).set i (G.1 i, e) = wld Y G ν := by
  subst he
  apply List.ext_getElem?
  intro j
  rw [List.getElem?_set]
  by_cases h : i = j
  · subst h
    rw [if_pos rfl, if_pos (by rw [wld_len]; exact hi), wld_get hi]
  · rw [if_neg h]
    by_cases hl : j < Y.1
    · rw [wld_get hl, wld_get hl, hj j (fun q => h q.symm)]
    · rw [List.getElem?_eq_none (by rw [wld_len]; omega), List.getElem?_eq_none (by rw [wld_len]; omega)]
theorem mset_same (μ : Mem) (c : Nat) (i v : Int) : mset μ c i v c i = v := by simp [mset]
theorem mset_ne (μ : Mem) (c : Nat) (i v j : Int) (h : j ≠ i) : mset μ c i v c j = μ c j := by simp [mset, h]
theorem mset_nc (μ : Mem) (c : Nat) (i v : Int) (d : Nat) (h : d ≠ c) : mset μ c i v d = μ d := by
  funext j; simp [mset, h]
abbrev Aof (Y : Ly) (G : Gd) : Nat → Prop := fun q => ∃ i, i < Y.1 ∧ q = G.1 i
abbrev dG (G : Gd) : va_G := (G.2.2.2.2.1, G.2.2.2.2.2)
def KK (Y : Ly) (G : Gd) (s : State) : Prop := va_K (dG G) classes [] s ∧ ∀ i ty n, i < Y.1 → Y.2.1 i = .inl (ty, n) → va_K (dG G) classes [(G.2.2.2.1 i, ty)] s
/-- what holds of a state between calls -/
def SW (Y : Ly) (G : Gd) (s : State) : Prop := TW s ∧ KK Y G s ∧ (∀ i j, i < Y.1 → j < Y.1 → G.1 i = G.1 j → i = j) ∧ SK G (Aof Y G) s s.heap
theorem KK.moved {Y : Ly} {G : Gd} {s U : State} (hv : s.vm.Alike U.vm) (h : KK Y G s) : KK Y G U := ⟨va_K.moved hv h.1, fun i ty n hi he => va_K.moved hv (h.2 i ty n hi he)⟩
theorem wld_D {Y : Ly} {G : Gd} {μ : Mem} (h : ∀ i j, i < Y.1 → j < Y.1 → G.1 i = G.1 j → i = j) : va_D (Aof Y G) (wld Y G μ) := by
  refine ⟨fun i j p q hp hq e => ?_, fun k q hk => ?_⟩
  · have hi : i < Y.1 := by have := (List.getElem?_eq_some_iff.mp hp).1; rwa [wld_len] at this
    have hj : j < Y.1 := by have := (List.getElem?_eq_some_iff.mp hq).1; rwa [wld_len] at this
    rw [wld_get hi] at hp; rw [wld_get hj] at hq
    cases hp; cases hq
    exact h i j hi hj e
  · have hi : k < Y.1 := by have := (List.getElem?_eq_some_iff.mp hk).1; rwa [wld_len] at this
    rw [wld_get hi] at hk; cases hk
    exact ⟨k, hi, rfl⟩
def Cx (Y : Ly) (y : Mt) (p : Program) (s : State) (m : MethodId) (meth : Method) (c : Code) (G : Gd) : Prop :=
  p.tables.exec = Jvm.exec ∧ c.code = y.2.1 ∧ meth.sig.returnType = y.2.2.2.1 ∧ c.maxLocals = y.2.2.1 ∧ s.vm.findClass y.1.cls = some m.cls ∧ meth.locks = false ∧ SW Y G s
def Qm (Y : Ly) (y : Mt) (G : Gd) (Q : PV → Mem → Prop) : Array Value → State → Outcome → State → Prop := fun _ st o t =>
  (∃ (r : PV) (μ : Mem), o = .returned (pvo G r) ∧ (r.1 = 0 ↔ y.2.2.2.1 = none) ∧ Q r μ ∧ va_P (dG G) classes (wld Y G μ) t.heap) ∧ va_F (Aof Y G) st t
/-- THE JUDGEMENT: from pc with these locals, this stack, this memory, the method comes to an end with Q -/
def Rj (Y : Ly) (y : Mt) (pc : Nat) (ls st : List PV) (μ : Mem) (Q : PV → Mem → Prop) : Prop :=
  ∀ (l : Launch) (p : Program) (e : Env) (s : State) (m : MethodId) (args : Array Value) (below : List Frame) (meth : Method) (c : Code) (G : Gd) (H : Heap) (locs : List Loc) (la : Array Slot),
    Cx Y y p s m meth c G → va_P (dG G) classes (wld Y G μ) H → va_S (Aof Y G) s.heap H locs → lv_has la y.2.2.1 (toL G ls) →
    W p l e (rmOf y) s m args below meth c H locs 0 0 (MQ below (Qm Y y G Q) args s 0 0 (Aof Y G)) (F0 m pc la (st.map (pv G)))
theorem toL_at {G : Gd} {la : Array Slot} {n : Nat} {ls : List PV} (h : lv_has la n (toL G ls)) {k : Nat} {v : PV} (hk : ls[k]? = some v) (hv : v.1 ≠ 0) : la[k]? = some (.val (pv G v)) :=
  h.2.2 (k, pv G v) (toL_mem.mpr ⟨v, hk, hv, rfl⟩)
/-- fewer locals are known -/
theorem Rj_loc {Y : Ly} {y : Mt} {pc : Nat} {ls ls' st : List PV} {μ : Mem} {Q : PV → Mem → Prop} (h : ∀ (k : Nat) (v : PV), ls'[k]? = some v → v.1 ≠ 0 → ls[k]? = some v) (k : Rj Y y pc ls' st μ Q) : Rj Y y pc ls st μ Q :=
  fun l p e s m args below meth c G H locs la hC hP hS hl => k l p e s m args below meth c G H locs la hC hP hS ⟨hl.1, hl.2.1, fun q hq => by
    obtain ⟨v, h1, h2, h3⟩ := toL_mem.mp hq
    rw [h3]
    exact toL_at hl (h _ _ h1 h2) h2⟩
theorem Rj_mono {Y : Ly} {y : Mt} {pc : Nat} {ls st : List PV} {μ : Mem} {Q Q' : PV → Mem → Prop} (h : ∀ r μ', Q' r μ' → Q r μ') (k : Rj Y y pc ls st μ Q') : Rj Y y pc ls st μ Q := by
  intro l p e s m args below meth c G H locs la hC hP hS hl T hT X
  obtain ⟨t, a, o, b1, b2, ⟨⟨r, μ', e1, e0, e2, e3⟩, b3⟩, b4⟩ := k l p e s m args below meth c G H locs la hC hP hS hl T hT X
  exact ⟨t, a, o, b1, b2, ⟨⟨r, μ', e1, e0, h _ _ e2, e3⟩, b3⟩, b4⟩
/-- stores into the locals -/
def stS : Nat → PV → List PV → List PV
  | 0, v, [] => [v]
  | 0, v, _ :: t => v :: t
  | k + 1, v, [] => vU :: stS k v []
  | k + 1, v, h :: t => h :: stS k v t
def clr (k : Nat) (ls : List PV) : List PV := match k with
  | 0 => ls
  | k + 1 => match ls[k]? with
    | some v => if v.1 = 2 then stS k vU ls else ls
    | none => ls
def stI (k : Nat) (v : PV) (ls : List PV) : List PV := stS k v (clr k ls)
def stL (k : Nat) (v : PV) (ls : List PV) : List PV := stS (k + 1) vU (stS k v (clr k ls))
theorem stS_get {v : PV} : ∀ {k : Nat} {ls : List PV} {j : Nat} {w : PV}, (stS k v ls)[j]? = some w → w.1 ≠ 0 → (j = k ∧ w = v) ∨ (j ≠ k ∧ ls[j]? = some w)
  | 0, [], j, w, h, hw => by cases j <;> simp_all [stS]
  | 0, a :: t, j, w, h, hw => by cases j <;> simp_all [stS]
  | k + 1, [], 0, w, h, hw => by simp [stS] at h; subst h; exact absurd rfl hw
  | k + 1, [], j + 1, w, h, hw => by
    have := stS_get (k := k) (ls := []) (j := j) (w := w) (by simpa [stS] using h) hw
    simpa using this
  | k + 1, a :: t, 0, w, h, hw => by simp [stS] at h; simp [h]
  | k + 1, a :: t, j + 1, w, h, hw => by
    have := stS_get (k := k) (ls := t) (j := j) (w := w) (by simpa [stS] using h) hw
    simpa using this
theorem clr_get {k : Nat} {ls : List PV} {j : Nat} {w : PV} (h : (clr k ls)[j]? = some w) (hw : w.1 ≠ 0) : ls[j]? = some w ∧ ¬ (j + 1 = k ∧ w.1 = 2) := by
  unfold clr at h
  cases k with
  | zero => exact ⟨h, fun q => by omega⟩
  | succ k =>
    dsimp only at h
    split at h
    · rename_i v hv
      split at h
      · rename_i h2
        rcases stS_get h hw with ⟨a, b⟩ | ⟨a, b⟩
        · subst b; exact absurd rfl hw
        · exact ⟨b, fun q => by omega⟩
      · rename_i h2
        refine ⟨h, fun q => ?_⟩
        have : j = k := by omega
        subst this
        rw [hv] at h; cases h
        exact h2 q.2
    · rename_i hn
      refine ⟨h, fun q => ?_⟩
      have : j = k := by omega
      subst this
      rw [hn] at h; cases h
theorem pv_cat2 {G : Gd} {v : PV} (h : (pv G v).category = 2) : v.1 = 2 := by
  unfold pv at h
  split at h
  · cases h
  · rename_i hh; exact hh
  · cases h
  · cases h
  · cases h
  · cases h
  · cases h
theorem lh_I {G : Gd} {la : Array Slot} {n k : Nat} {v : PV} {ls : List PV} {x : Value} (hx : x = pv G v) (h : lv_has la n ((k, x) :: (toL G ls).filter (fun q => !(q.1 == k) && !(q.1 + 1 == k && q.2.category == 2)))) : lv_has la n (toL G (stI k v ls)) := by
  subst hx
  refine ⟨h.1, h.2.1, fun q hq => h.2.2 q ?_⟩
  obtain ⟨w, h1, h2, h3⟩ := toL_mem.mp hq
  rcases stS_get h1 h2 with ⟨a, b⟩ | ⟨a, b⟩
  · subst b
    refine List.mem_cons.mpr (Or.inl ?_)
    rw [← a, ← h3]
  · obtain ⟨c1, c2⟩ := clr_get b h2
    refine List.mem_cons.mpr (Or.inr (List.mem_filter.mpr ⟨toL_mem.mpr ⟨w, c1, h2, h3⟩, ?_⟩))
    have e1 : (q.1 == k) = false := by simpa using a
    have e2 : (q.1 + 1 == k && q.2.category == 2) = false := by
      cases hh : (q.1 + 1 == k && q.2.category == 2) with
      | false => rfl
      | true =>
        rw [Bool.and_eq_true] at hh
        exact absurd ⟨by simpa using hh.1, pv_cat2 (by rw [← h3]; simpa using hh.2)⟩ c2
    rw [e1, e2]; rfl
theorem lh_L {G : Gd} {la : Array Slot} {n k : Nat} {v : PV} {ls : List PV} {x : Value} (hx : x = pv G v) (h : lv_has la n ((k, x) :: (toL G ls).filter (fun q => !(q.1 == k) && (!(q.1 == k + 1) && !(q.1 + 1 == k && q.2.category == 2))))) : lv_has la n (toL G (stL k v ls)) := by
  subst hx
  refine ⟨h.1, h.2.1, fun q hq => h.2.2 q ?_⟩
  obtain ⟨w, h1, h2, h3⟩ := toL_mem.mp hq
  rcases stS_get h1 h2 with ⟨a, b⟩ | ⟨a0, b⟩
  · subst b; exact absurd rfl h2
  rcases stS_get b h2 with ⟨a, b⟩ | ⟨a, b⟩
  · subst b
    refine List.mem_cons.mpr (Or.inl ?_)
    rw [← a, ← h3]
  · obtain ⟨c1, c2⟩ := clr_get b h2
    refine List.mem_cons.mpr (Or.inr (List.mem_filter.mpr ⟨toL_mem.mpr ⟨w, c1, h2, h3⟩, ?_⟩))
    have e0 : (q.1 == k + 1) = false := by simpa using a0
    have e1 : (q.1 == k) = false := by simpa using a
    have e2 : (q.1 + 1 == k && q.2.category == 2) = false := by
      cases hh : (q.1 + 1 == k && q.2.category == 2) with
      | false => rfl
      | true =>
        rw [Bool.and_eq_true] at hh
        exact absurd ⟨by simpa using hh.1, pv_cat2 (by rw [← h3]; simpa using hh.2)⟩ c2
    rw [e0, e1, e2]; rfl
