/-! the rows of fields and arrays -/
/-- the field k of the class ci, by the pool's entry idx of the class own -/
def FL (own : String) (idx ci k : Nat) : Prop := ∃ (C : String) (T : u_T) (N : Nat), classes[ci]? = some (C, T, N) ∧ k < N ∧ (∀ w ∈ u_ws C T N, w ∈ lw_tbl) ∧ Cond.fieldLink own idx (T k).1 (T k).2.1 (T k).2.2.1 ∈ lw_tbl
/-- what a store needs more: the types of the class's fields -/
def FP (ci k : Nat) (ty : FieldType) : Prop := ∃ (C : String) (T : u_T) (N : Nat) (t0 : Nat → FieldType), classes[ci]? = some (C, T, N) ∧ (∀ k, k < N → parseFieldDescriptor (T k).2.2.1 = some (t0 k)) ∧ (∀ a, a < N → ∀ b, b < N → a ≠ b → (T a).2.1 ≠ (T b).2.1) ∧ (T k).2.2.2 = false ∧ parseFieldDescriptor (T k).2.2.1 = some ty
theorem lays_ok (C : String) (T : u_T) (k : Nat) : tw_ok (u_lay C T k) = true := by
  unfold u_lay; split <;> rfl
theorem TW.lays {s : State} {args : Array Value} (h : TW s) {C : String} {T : u_T} {N : Nat} (hin : ∀ w ∈ u_ws C T N, w ∈ lw_tbl) : ∀ w ∈ u_ws C T N, w.before args s = true := by
  intro w hw
  obtain ⟨k, -, rfl⟩ := List.mem_map.mp hw
  exact h _ (hin _ hw) (lays_ok C T k) _
section MEM
variable {Y : Ly} {y : Mt} {pc q : Nat} {ls st : List PV} {μ : Mem} {Q : PV → Mem → Prop}
theorem wC_obj {G : Gd} {f : Int → Int} {i ci n : Nat} {fk : Nat → Option (Option Nat)} (h : Y.2.1 i = .inr (ci, n, fk)) : wC Y G f i = .inr (ci, (List.range n).map (fun k => fv G (fk k) (f k))) := by
  unfold wC; rw [h]
theorem wC_arr {G : Gd} {f : Int → Int} {i n : Nat} {ty : FieldType} (h : Y.2.1 i = .inl (ty, n)) : wC Y G f i = .inl (G.2.2.2.1 i, n, arC Y G ty f i) := by
  unfold wC; rw [h]
theorem Rj_get0 {idx ci k n c : Nat} {z : Int} {fk : Nat → Option (Option Nat)} {v : PV} (hf : FL y.1.cls idx ci k) (hz : z.toNat = c) (hc : c < Y.1) (hY : Y.2.1 c = .inr (ci, n, fk)) (hk : k < n) (hv : ∀ G : Gd, fv G (fk k) (μ c (k : Int)) = pv G v) (hd : decode y.2.1 pc = .ok (.getfield idx, 3)) (hq : pc + 3 = q) (kk : Rj Y y q ls (v :: st) μ Q) : Rj Y y pc ls (vA z :: st) μ Q := by
  subst hq; subst hz
  intro l p e s m args below meth c G H locs la hC hP hS hl
  obtain ⟨hx, hb, hr, hml, hown, hlk, hSW⟩ := id hC
  obtain ⟨C, T, N, h1, h2, h3, h4⟩ := hf
  have he := wld_get (G := G) (μ := μ) hc
  rw [wC_obj hY] at he
  exact va_get hx hb (TW.lays hSW.1 h3) (fun w h => h) hown hSW.2.1.1 hP _ he h1 k h2 (hSW.1 _ h4 rfl _) (fun x h => h) (v := pv G v) (by rw [List.getElem?_map, List.getElem?_range hk, ← hv G]; rfl) hd (kk l p e s m args below meth c G H locs la hC hP hS hl)
theorem Rj_geti {idx ci k n c : Nat} {z ki : Int} {fk : Nat → Option (Option Nat)} (hf : FL y.1.cls idx ci k) (hz : z.toNat = c) (hc : c < Y.1) (hY : Y.2.1 c = .inr (ci, n, fk)) (hk : k < n) (hv : fk k = none) (hki : (k : Int) = ki) (hd : decode y.2.1 pc = .ok (.getfield idx, 3)) (hq : pc + 3 = q) (kk : Rj Y y q ls (vI (μ c ki) :: st) μ Q) : Rj Y y pc ls (vA z :: st) μ Q :=
  Rj_get0 hf hz hc hY hk (fun G => by rw [hv, hki]; rfl) hd hq kk
theorem Rj_getl {idx ci k n c : Nat} {z ki : Int} {fk : Nat → Option (Option Nat)} (hf : FL y.1.cls idx ci k) (hz : z.toNat = c) (hc : c < Y.1) (hY : Y.2.1 c = .inr (ci, n, fk)) (hk : k < n) (hv : fk k = some none) (hki : (k : Int) = ki) (hd : decode y.2.1 pc = .ok (.getfield idx, 3)) (hq : pc + 3 = q) (kk : Rj Y y q ls (vL (μ c ki) :: st) μ Q) : Rj Y y pc ls (vA z :: st) μ Q :=
  Rj_get0 hf hz hc hY hk (fun G => by rw [hv, hki]; rfl) hd hq kk
theorem Rj_getr {idx ci k n c d : Nat} {z zd : Int} {fk : Nat → Option (Option Nat)} (hf : FL y.1.cls idx ci k) (hz : z.toNat = c) (hc : c < Y.1) (hY : Y.2.1 c = .inr (ci, n, fk)) (hk : k < n) (hv : fk k = some (some d)) (hzd : zd.toNat = d) (hd : decode y.2.1 pc = .ok (.getfield idx, 3)) (hq : pc + 3 = q) (kk : Rj Y y q ls (vA zd :: st) μ Q) : Rj Y y pc ls (vA z :: st) μ Q :=
  Rj_get0 hf hz hc hY hk (fun G => by rw [hv, ← hzd]; rfl) hd hq kk
theorem set_obj {G : Gd} {fk : Nat → Option (Option Nat)} {n k : Nat} {f : Int → Int} {z : Int} {v : Value} (hk : k < n) (hv : fv G (fk k) z = v) :
    ((List.range n).map (fun k => fv G (fk k) (f k))).set k v = (List.range n).map (fun j => fv G (fk j) ((fun i : Int => if i = (k : Int) then z else f i) j)) := by
  apply List.ext_getElem?
  intro j
  rw [List.getElem?_set, List.length_map, List.length_range, List.getElem?_map, List.getElem?_map]
  by_cases h : k = j
  · subst h
    rw [if_pos rfl, if_pos hk, List.getElem?_range hk]
    simp [hv]
  · rw [if_neg h]
    by_cases hj : j < n
    · rw [List.getElem?_range hj]
      simp [show ¬ ((j : Int) = (k : Int)) by omega]
    · rw [List.getElem?_eq_none (by rw [List.length_range]; omega)]; rfl
theorem mset_row (μ : Mem) (c : Nat) (i v : Int) : mset μ c i v c = fun j => if j = i then v else μ c j := by
  funext j; simp [mset]
theorem Rj_put0 {idx ci k n c : Nat} {z zv : Int} {fk : Nat → Option (Option Nat)} {ty : FieldType} {v : PV} (hf : FL y.1.cls idx ci k) (hp : FP ci k ty) (hz : z.toNat = c) (hc : c < Y.1) (hY : Y.2.1 c = .inr (ci, n, fk)) (hk : k < n) (hv : ∀ G : Gd, fv G (fk k) zv = pv G v) (hn : ∀ G : Gd, narrow ty (pv G v) = pv G v) (hfit : ∀ G : Gd, fits ty (pv G v) = true) (hd : decode y.2.1 pc = .ok (.putfield idx, 3)) (hq : pc + 3 = q) (kk : Rj Y y q ls st (mset μ c (k : Int) zv) Q) : Rj Y y pc ls (v :: vA z :: st) μ Q := by
  subst hq; subst hz
  intro l p e s m args below meth c G H locs la hC hP hS hl
  obtain ⟨hx, hb, hr, hml, hown, hlk, hSW⟩ := id hC
  obtain ⟨C, T, N, h1, h2, h3, h4⟩ := hf
  obtain ⟨C', T', N', t0, g1, g2, g3, g4, g5⟩ := hp
  cases h1.symm.trans g1
  have he := wld_get (G := G) (μ := μ) hc
  rw [wC_obj hY] at he
  refine va_put hx hb (TW.lays hSW.1 h3) (fun w h => h) t0 g2 g3 hown hSW.2.1.1 hP (wld_D hSW.2.2.1) hS _ he h1 k h2 (hSW.1 _ h4 rfl _) (fun x h => h) g4 g5 (hn G) (hfit G) (by rw [List.length_map, List.length_range]; exact hk) hd (fun H1 locs1 hP1 hD1 hS1 => ?_)
  have hw : (wld Y G μ).set z.toNat (G.1 z.toNat, .inr (ci, ((List.range n).map (fun k => fv G (fk k) (μ z.toNat k))).set k (pv G v))) = wld Y G (mset μ z.toNat (k : Int) zv) := by
    refine wld_set hc ?_ (fun j hj => mset_nc _ _ _ _ _ hj)
    rw [wC_obj hY, mset_row, set_obj hk (hv G)]
  rw [hw] at hP1
  exact kk l p e s m args below meth c G H1 locs1 la hC hP1 hS1 hl
theorem Rj_puti {idx ci k n c : Nat} {z zv ki : Int} {fk : Nat → Option (Option Nat)} (hf : FL y.1.cls idx ci k) (hp : FP ci k .int) (hz : z.toNat = c) (hc : c < Y.1) (hY : Y.2.1 c = .inr (ci, n, fk)) (hk : k < n) (hv : fk k = none) (hki : (k : Int) = ki) (hd : decode y.2.1 pc = .ok (.putfield idx, 3)) (hq : pc + 3 = q) (kk : Rj Y y q ls st (mset μ c ki zv) Q) : Rj Y y pc ls (vI zv :: vA z :: st) μ Q := by
  subst hki
  exact Rj_put0 hf hp hz hc hY hk (fun G => by rw [hv]; rfl) (fun G => rfl) (fun G => rfl) hd hq kk
theorem Rj_putl {idx ci k n c : Nat} {z zv ki : Int} {fk : Nat → Option (Option Nat)} (hf : FL y.1.cls idx ci k) (hp : FP ci k .long) (hz : z.toNat = c) (hc : c < Y.1) (hY : Y.2.1 c = .inr (ci, n, fk)) (hk : k < n) (hv : fk k = some none) (hki : (k : Int) = ki) (hd : decode y.2.1 pc = .ok (.putfield idx, 3)) (hq : pc + 3 = q) (kk : Rj Y y q ls st (mset μ c ki zv) Q) : Rj Y y pc ls (vL zv :: vA z :: st) μ Q := by
  subst hki
  exact Rj_put0 hf hp hz hc hY hk (fun G => by rw [hv]; rfl) (fun G => rfl) (fun G => rfl) hd hq kk
/-- arrays -/
theorem ix_nat {i : Int} (h0 : 0 ≤ i) (h1 : i ≤ 2147483647) : (((Int32.ofInt i).toNatClampNeg : Nat) : Int) = i := by
  rw [o32_clamp h0 h1]; omega
theorem Rj_iald {c n : Nat} {z i : Int} (hz : z.toNat = c) (hc : c < Y.1) (hY : Y.2.1 c = .inl (.int, n)) (hn : n ≤ 2147483647) (hi : 0 ≤ i ∧ i < (n : Int)) (hd : decode y.2.1 pc = .ok (.iaload, 1)) (hq : pc + 1 = q) (kk : Rj Y y q ls (vI (μ c i) :: st) μ Q) : Rj Y y pc ls (vI i :: vA z :: st) μ Q := by
  subst hq; subst hz
  intro l p e s m args below meth c G H locs la hC hP hS hl
  obtain ⟨hx, hb, hr, hml, hown, hlk, hSW⟩ := id hC
  have he := wld_get (G := G) (μ := μ) hc
  rw [wC_arr hY] at he
  refine va_iald hx hb (hSW.2.1.2 _ _ _ hc hY) hP _ 0 he rfl (o32_in hi.1 hi.2 hn) hd ?_
  dsimp only
  rw [ix_nat hi.1 (by omega)]
  exact kk l p e s m args below meth c G H locs la hC hP hS hl
theorem Rj_lald {c n : Nat} {z i : Int} (hz : z.toNat = c) (hc : c < Y.1) (hY : Y.2.1 c = .inl (.long, n)) (hn : n ≤ 2147483647) (hi : 0 ≤ i ∧ i < (n : Int)) (hd : decode y.2.1 pc = .ok (.laload, 1)) (hq : pc + 1 = q) (kk : Rj Y y q ls (vL (μ c i) :: st) μ Q) : Rj Y y pc ls (vI i :: vA z :: st) μ Q := by
  subst hq; subst hz
  intro l p e s m args below meth c G H locs la hC hP hS hl
  obtain ⟨hx, hb, hr, hml, hown, hlk, hSW⟩ := id hC
  have he := wld_get (G := G) (μ := μ) hc
  rw [wC_arr hY] at he
  refine va_lald hx hb (hSW.2.1.2 _ _ _ hc hY) hP _ 0 he rfl (o32_in hi.1 hi.2 hn) hd ?_
  dsimp only
  rw [ix_nat hi.1 (by omega)]
  exact kk l p e s m args below meth c G H locs la hC hP hS hl
theorem Rj_bald {c n : Nat} {z i : Int} (hz : z.toNat = c) (hc : c < Y.1) (hY : Y.2.1 c = .inl (.byte, n)) (hn : n ≤ 2147483647) (hi : 0 ≤ i ∧ i < (n : Int)) (hd : decode y.2.1 pc = .ok (.baload, 1)) (hq : pc + 1 = q) (kk : Rj Y y q ls (vI (μ c i) :: st) μ Q) : Rj Y y pc ls (vI i :: vA z :: st) μ Q := by
  subst hq; subst hz
  intro l p e s m args below meth c G H locs la hC hP hS hl
  obtain ⟨hx, hb, hr, hml, hown, hlk, hSW⟩ := id hC
  have he := wld_get (G := G) (μ := μ) hc
  rw [wC_arr hY] at he
  refine va_bald hx hb (hSW.2.1.2 _ _ _ hc hY) hP _ 0 he rfl (o32_in hi.1 hi.2 hn) hd ?_
  dsimp only
  rw [ix_nat hi.1 (by omega)]
  exact kk l p e s m args below meth c G H locs la hC hP hS hl
theorem Rj_zald {c n : Nat} {z i : Int} (hz : z.toNat = c) (hc : c < Y.1) (hY : Y.2.1 c = .inl (.boolean, n)) (hn : n ≤ 2147483647) (hi : 0 ≤ i ∧ i < (n : Int)) (hd : decode y.2.1 pc = .ok (.baload, 1)) (hq : pc + 1 = q) (kk : Rj Y y q ls (vI (μ c i) :: st) μ Q) : Rj Y y pc ls (vI i :: vA z :: st) μ Q := by
  subst hq; subst hz
  intro l p e s m args below meth c G H locs la hC hP hS hl
  obtain ⟨hx, hb, hr, hml, hown, hlk, hSW⟩ := id hC
  have he := wld_get (G := G) (μ := μ) hc
  rw [wC_arr hY] at he
  refine va_zald hx hb (hSW.2.1.2 _ _ _ hc hY) hP _ 0 he rfl (o32_in hi.1 hi.2 hn) hd ?_
  dsimp only
  rw [ix_nat hi.1 (by omega)]
  exact kk l p e s m args below meth c G H locs la hC hP hS hl
theorem Rj_aald {c n d : Nat} {z i zd : Int} {C : String} (hz : z.toNat = c) (hc : c < Y.1) (hY : Y.2.1 c = .inl (.object C, n)) (hn : n ≤ 2147483647) (hi : 0 ≤ i ∧ i < (n : Int)) (hdd : Y.2.2 c i.toNat = d) (hzd : zd.toNat = d) (hd : decode y.2.1 pc = .ok (.aaload, 1)) (hq : pc + 1 = q) (kk : Rj Y y q ls (vA zd :: st) μ Q) : Rj Y y pc ls (vI i :: vA z :: st) μ Q := by
  subst hq; subst hz; subst hzd
  intro l p e s m args below meth c G H locs la hC hP hS hl
  obtain ⟨hx, hb, hr, hml, hown, hlk, hSW⟩ := id hC
  have he := wld_get (G := G) (μ := μ) hc
  rw [wC_arr hY] at he
  refine va_aldq hx hb (hSW.2.1.2 _ _ _ hc hY) hP _ 0 he rfl (o32_in hi.1 hi.2 hn) hd ?_
  dsimp only
  rw [o32_clamp hi.1 (by omega), hdd]
  exact kk l p e s m args below meth c G H locs la hC hP hS hl
theorem Rj_alen {c n : Nat} {z zn : Int} {ty : FieldType} (hz : z.toNat = c) (hc : c < Y.1) (hY : Y.2.1 c = .inl (ty, n)) (hn : (n : Int) = zn) (hd : decode y.2.1 pc = .ok (.arraylength, 1)) (hq : pc + 1 = q) (kk : Rj Y y q ls (vI zn :: st) μ Q) : Rj Y y pc ls (vA z :: st) μ Q := by
  subst hq; subst hz; subst hn
  intro l p e s m args below meth c G H locs la hC hP hS hl
  obtain ⟨hx, hb, hr, hml, hown, hlk, hSW⟩ := id hC
  have he := wld_get (G := G) (μ := μ) hc
  rw [wC_arr hY] at he
  exact va_alen hx hb (hSW.2.1.2 _ _ _ hc hY) hP _ 0 he rfl (v := Int32.ofInt (n : Int)) (by first | rfl | exact (Int32.ofInt_natCast n).symm | simp) hd (kk l p e s m args below meth c G H locs la hC hP hS hl)
theorem upd_fun {α : Type} {h : Int → α} {f : Int → Int} {i : Int} {x : Int} (h0 : 0 ≤ i) (h1 : i ≤ 2147483647) : (fun j : Nat => if j = (Int32.ofInt i).toNatClampNeg then h x else h (f j)) = fun j : Nat => h (if (j : Int) = i then x else f j) := by
  funext j
  rw [o32_clamp h0 h1]
  by_cases e : j = i.toNat
  · rw [if_pos e, if_pos (by omega)]
  · rw [if_neg e, if_neg (by omega)]
theorem Rj_iast {c n : Nat} {z i x : Int} (hz : z.toNat = c) (hc : c < Y.1) (hY : Y.2.1 c = .inl (.int, n)) (hn : n ≤ 2147483647) (hi : 0 ≤ i ∧ i < (n : Int)) (hd : decode y.2.1 pc = .ok (.iastore, 1)) (hq : pc + 1 = q) (kk : Rj Y y q ls st (mset μ c i x) Q) : Rj Y y pc ls (vI x :: vI i :: vA z :: st) μ Q := by
  subst hq; subst hz
  intro l p e s m args below meth c G H locs la hC hP hS hl
  obtain ⟨hx, hb, hr, hml, hown, hlk, hSW⟩ := id hC
  have he := wld_get (G := G) (μ := μ) hc
  rw [wC_arr hY] at he
  refine va_iast hx hb (hSW.2.1.2 _ _ _ hc hY) hP (wld_D hSW.2.2.1) hS _ 0 he rfl (o32_in hi.1 hi.2 hn) hd (fun H1 locs1 hP1 hD1 hS1 => ?_)
  rw [wld_set (ν := mset μ z.toNat i x) hc (by rw [wC_arr hY, mset_row]; exact congrArg (fun g => Sum.inl (_, n, Sum.inl g)) (upd_fun hi.1 (by omega))) (fun j hj => mset_nc _ _ _ _ _ hj)] at hP1
  exact kk l p e s m args below meth c G H1 locs1 la hC hP1 hS1 hl
theorem Rj_last {c n : Nat} {z i x : Int} (hz : z.toNat = c) (hc : c < Y.1) (hY : Y.2.1 c = .inl (.long, n)) (hn : n ≤ 2147483647) (hi : 0 ≤ i ∧ i < (n : Int)) (hd : decode y.2.1 pc = .ok (.lastore, 1)) (hq : pc + 1 = q) (kk : Rj Y y q ls st (mset μ c i x) Q) : Rj Y y pc ls (vL x :: vI i :: vA z :: st) μ Q := by
  subst hq; subst hz
  intro l p e s m args below meth c G H locs la hC hP hS hl
  obtain ⟨hx, hb, hr, hml, hown, hlk, hSW⟩ := id hC
  have he := wld_get (G := G) (μ := μ) hc
  rw [wC_arr hY] at he
  refine va_last hx hb (hSW.2.1.2 _ _ _ hc hY) hP (wld_D hSW.2.2.1) hS _ 0 he rfl (o32_in hi.1 hi.2 hn) hd (fun H1 locs1 hP1 hD1 hS1 => ?_)
  rw [wld_set (ν := mset μ z.toNat i x) hc (by rw [wC_arr hY, mset_row]; exact congrArg (fun g => Sum.inl (_, n, Sum.inr (Sum.inl g))) (upd_fun hi.1 (by omega))) (fun j hj => mset_nc _ _ _ _ _ hj)] at hP1
  exact kk l p e s m args below meth c G H1 locs1 la hC hP1 hS1 hl
theorem nar_b {x : Int} (h : -128 ≤ x ∧ x ≤ 127) : vp_nar .byte (Int32.ofInt x) = Int32.ofInt x := by
  rw [vp_nar_byte, o32_b]
  congr 1
  rw [Int.bmod_def]; split <;> omega
theorem Rj_bast {c n : Nat} {z i x : Int} (hz : z.toNat = c) (hc : c < Y.1) (hY : Y.2.1 c = .inl (.byte, n)) (hn : n ≤ 2147483647) (hi : 0 ≤ i ∧ i < (n : Int)) (hx0 : -128 ≤ x ∧ x ≤ 127) (hd : decode y.2.1 pc = .ok (.bastore, 1)) (hq : pc + 1 = q) (kk : Rj Y y q ls st (mset μ c i x) Q) : Rj Y y pc ls (vI x :: vI i :: vA z :: st) μ Q := by
  subst hq; subst hz
  intro l p e s m args below meth c G H locs la hC hP hS hl
  obtain ⟨hx, hb, hr, hml, hown, hlk, hSW⟩ := id hC
  have he := wld_get (G := G) (μ := μ) hc
  rw [wC_arr hY] at he
  refine va_bast hx hb (hSW.2.1.2 _ _ _ hc hY) hP (wld_D hSW.2.2.1) hS _ 0 he rfl (o32_in hi.1 hi.2 hn) hd (fun H1 locs1 hP1 hD1 hS1 => ?_)
  rw [nar_b hx0] at hP1
  rw [wld_set (ν := mset μ z.toNat i x) hc (by rw [wC_arr hY, mset_row]; exact congrArg (fun g => Sum.inl (_, n, Sum.inl g)) (upd_fun hi.1 (by omega))) (fun j hj => mset_nc _ _ _ _ _ hj)] at hP1
  exact kk l p e s m args below meth c G H1 locs1 la hC hP1 hS1 hl
theorem Rj_zast {c n : Nat} {z i x : Int} (hz : z.toNat = c) (hc : c < Y.1) (hY : Y.2.1 c = .inl (.boolean, n)) (hn : n ≤ 2147483647) (hi : 0 ≤ i ∧ i < (n : Int)) (hx0 : vp_nar .boolean (Int32.ofInt x) = Int32.ofInt x) (hd : decode y.2.1 pc = .ok (.bastore, 1)) (hq : pc + 1 = q) (kk : Rj Y y q ls st (mset μ c i x) Q) : Rj Y y pc ls (vI x :: vI i :: vA z :: st) μ Q := by
  subst hq; subst hz
  intro l p e s m args below meth c G H locs la hC hP hS hl
  obtain ⟨hx, hb, hr, hml, hown, hlk, hSW⟩ := id hC
  have he := wld_get (G := G) (μ := μ) hc
  rw [wC_arr hY] at he
  refine va_zast hx hb (hSW.2.1.2 _ _ _ hc hY) hP (wld_D hSW.2.2.1) hS _ 0 he rfl (o32_in hi.1 hi.2 hn) hd (fun H1 locs1 hP1 hD1 hS1 => ?_)
  rw [hx0] at hP1
  rw [wld_set (ν := mset μ z.toNat i x) hc (by rw [wC_arr hY, mset_row]; exact congrArg (fun g => Sum.inl (_, n, Sum.inl g)) (upd_fun hi.1 (by omega))) (fun j hj => mset_nc _ _ _ _ _ hj)] at hP1
  exact kk l p e s m args below meth c G H1 locs1 la hC hP1 hS1 hl
end MEM
