/-! shorter rows: what the layout says once for all -/
def GI (Y : Ly) (own : String) (idx c k : Nat) (kd : Option (Option Nat)) : Prop := c < Y.1 ∧ ∃ (ci n : Nat) (fk : Nat → Option (Option Nat)), FL own idx ci k ∧ Y.2.1 c = .inr (ci, n, fk) ∧ k < n ∧ fk k = kd
def PI (Y : Ly) (own : String) (idx c k : Nat) (kd : Option (Option Nat)) (ty : FieldType) : Prop := c < Y.1 ∧ ∃ (ci n : Nat) (fk : Nat → Option (Option Nat)), FL own idx ci k ∧ FP ci k ty ∧ Y.2.1 c = .inr (ci, n, fk) ∧ k < n ∧ fk k = kd
def AI (Y : Ly) (c : Nat) (ty : FieldType) (n : Nat) : Prop := c < Y.1 ∧ Y.2.1 c = .inl (ty, n) ∧ n ≤ 2147483647
def OI (Y : Ly) (c : Nat) (z : Mt) : Prop := c < Y.1 ∧ ∃ (ci n : Nat) (fk : Nat → Option (Option Nat)), Y.2.1 c = .inr (ci, n, fk) ∧ (classes[ci]?).map (fun q => q.1) = some z.1.cls
/-- a truth value as a number -/
def bI (b : Bool) : Int := if b = true then 1 else 0
theorem bI_t {b : Bool} (h : b = true) : bI b = 1 := by rw [h]; rfl
theorem bI_f {b : Bool} (h : b = false) : bI b = 0 := by rw [h]; rfl
theorem bT {P : Prop} [Decidable P] (h : P) : bI (decide P) = 1 := bI_t (decide_eq_true h)
theorem bF {P : Prop} [Decidable P] (h : ¬ P) : bI (decide P) = 0 := bI_f (decide_eq_false h)
theorem bI_01 (b : Bool) : bI b = 0 ∨ bI b = 1 := by cases b <;> simp [bI]
theorem bI_32 (b : Bool) : i32 (bI b) := by cases b <;> decide
theorem fin_I {Q : PV → Mem → Prop} {a b : Int} {μ : Mem} (h : Q (vI a) μ) (e : a = b) : Q (vI b) μ := e ▸ h
theorem fin_L {Q : PV → Mem → Prop} {a b : Int} {μ : Mem} (h : Q (vL a) μ) (e : a = b) : Q (vL b) μ := e ▸ h
theorem fin_M {Q : PV → Mem → Prop} {r : PV} {μ ν : Mem} (h : Q r μ) (e : μ = ν) : Q r ν := e ▸ h
theorem fin_IM {Q : PV → Mem → Prop} {a b : Int} {μ ν : Mem} (h : Q (vI a) μ) (e : a = b) (e2 : μ = ν) : Q (vI b) ν := e ▸ e2 ▸ h
section SHORT
variable {Y : Ly} {y : Mt} {pc q : Nat} {ls st rest : List PV} {μ : Mem} {Q : PV → Mem → Prop}
theorem Rj_gi {idx c k : Nat} {z ki v : Int} (g : GI Y y.1.cls idx c k none) (hz : z.toNat = c) (hki : (k : Int) = ki) (hv : μ c ki = v) (hd : decode y.2.1 pc = .ok (.getfield idx, 3)) (hq : pc + 3 = q) (kk : Rj Y y q ls (vI v :: st) μ Q) : Rj Y y pc ls (vA z :: st) μ Q := by
  obtain ⟨h0, ci, n, fk, h1, h2, h3, h4⟩ := g
  subst hv
  exact Rj_geti h1 hz h0 h2 h3 h4 hki hd hq kk
theorem Rj_gl {idx c k : Nat} {z ki v : Int} (g : GI Y y.1.cls idx c k (some none)) (hz : z.toNat = c) (hki : (k : Int) = ki) (hv : μ c ki = v) (hd : decode y.2.1 pc = .ok (.getfield idx, 3)) (hq : pc + 3 = q) (kk : Rj Y y q ls (vL v :: st) μ Q) : Rj Y y pc ls (vA z :: st) μ Q := by
  obtain ⟨h0, ci, n, fk, h1, h2, h3, h4⟩ := g
  subst hv
  exact Rj_getl h1 hz h0 h2 h3 h4 hki hd hq kk
theorem Rj_gr {idx c k d : Nat} {z zd : Int} (g : GI Y y.1.cls idx c k (some (some d))) (hz : z.toNat = c) (hzd : zd.toNat = d) (hd : decode y.2.1 pc = .ok (.getfield idx, 3)) (hq : pc + 3 = q) (kk : Rj Y y q ls (vA zd :: st) μ Q) : Rj Y y pc ls (vA z :: st) μ Q := by
  obtain ⟨h0, ci, n, fk, h1, h2, h3, h4⟩ := g
  exact Rj_getr h1 hz h0 h2 h3 h4 hzd hd hq kk
theorem Rj_pi {idx c k : Nat} {z ki v : Int} (g : PI Y y.1.cls idx c k none .int) (hz : z.toNat = c) (hki : (k : Int) = ki) (hd : decode y.2.1 pc = .ok (.putfield idx, 3)) (hq : pc + 3 = q) (kk : Rj Y y q ls st (mset μ c ki v) Q) : Rj Y y pc ls (vI v :: vA z :: st) μ Q := by
  obtain ⟨h0, ci, n, fk, h1, h2, h3, h4, h5⟩ := g
  exact Rj_puti h1 h2 hz h0 h3 h4 h5 hki hd hq kk
theorem Rj_pl {idx c k : Nat} {z ki v : Int} (g : PI Y y.1.cls idx c k (some none) .long) (hz : z.toNat = c) (hki : (k : Int) = ki) (hd : decode y.2.1 pc = .ok (.putfield idx, 3)) (hq : pc + 3 = q) (kk : Rj Y y q ls st (mset μ c ki v) Q) : Rj Y y pc ls (vL v :: vA z :: st) μ Q := by
  obtain ⟨h0, ci, n, fk, h1, h2, h3, h4, h5⟩ := g
  exact Rj_putl h1 h2 hz h0 h3 h4 h5 hki hd hq kk
theorem Rj_ia {c n : Nat} {z i v : Int} (g : AI Y c .int n) (hz : z.toNat = c) (hi : 0 ≤ i ∧ i < (n : Int)) (hv : μ c i = v) (hd : decode y.2.1 pc = .ok (.iaload, 1)) (hq : pc + 1 = q) (kk : Rj Y y q ls (vI v :: st) μ Q) : Rj Y y pc ls (vI i :: vA z :: st) μ Q := by
  subst hv
  exact Rj_iald hz g.1 g.2.1 g.2.2 hi hd hq kk
theorem Rj_la {c n : Nat} {z i v : Int} (g : AI Y c .long n) (hz : z.toNat = c) (hi : 0 ≤ i ∧ i < (n : Int)) (hv : μ c i = v) (hd : decode y.2.1 pc = .ok (.laload, 1)) (hq : pc + 1 = q) (kk : Rj Y y q ls (vL v :: st) μ Q) : Rj Y y pc ls (vI i :: vA z :: st) μ Q := by
  subst hv
  exact Rj_lald hz g.1 g.2.1 g.2.2 hi hd hq kk
theorem Rj_ba {c n : Nat} {z i v : Int} (g : AI Y c .byte n) (hz : z.toNat = c) (hi : 0 ≤ i ∧ i < (n : Int)) (hv : μ c i = v) (hd : decode y.2.1 pc = .ok (.baload, 1)) (hq : pc + 1 = q) (kk : Rj Y y q ls (vI v :: st) μ Q) : Rj Y y pc ls (vI i :: vA z :: st) μ Q := by
  subst hv
  exact Rj_bald hz g.1 g.2.1 g.2.2 hi hd hq kk
theorem Rj_za {c n : Nat} {z i v : Int} (g : AI Y c .boolean n) (hz : z.toNat = c) (hi : 0 ≤ i ∧ i < (n : Int)) (hv : μ c i = v) (hd : decode y.2.1 pc = .ok (.baload, 1)) (hq : pc + 1 = q) (kk : Rj Y y q ls (vI v :: st) μ Q) : Rj Y y pc ls (vI i :: vA z :: st) μ Q := by
  subst hv
  exact Rj_zald hz g.1 g.2.1 g.2.2 hi hd hq kk
theorem Rj_is {c n : Nat} {z i x : Int} (g : AI Y c .int n) (hz : z.toNat = c) (hi : 0 ≤ i ∧ i < (n : Int)) (hd : decode y.2.1 pc = .ok (.iastore, 1)) (hq : pc + 1 = q) (kk : Rj Y y q ls st (mset μ c i x) Q) : Rj Y y pc ls (vI x :: vI i :: vA z :: st) μ Q :=
  Rj_iast hz g.1 g.2.1 g.2.2 hi hd hq kk
theorem Rj_lst {c n : Nat} {z i x : Int} (g : AI Y c .long n) (hz : z.toNat = c) (hi : 0 ≤ i ∧ i < (n : Int)) (hd : decode y.2.1 pc = .ok (.lastore, 1)) (hq : pc + 1 = q) (kk : Rj Y y q ls st (mset μ c i x) Q) : Rj Y y pc ls (vL x :: vI i :: vA z :: st) μ Q :=
  Rj_last hz g.1 g.2.1 g.2.2 hi hd hq kk
theorem Rj_bs {c n : Nat} {z i x : Int} (g : AI Y c .byte n) (hz : z.toNat = c) (hi : 0 ≤ i ∧ i < (n : Int)) (hx : -128 ≤ x ∧ x ≤ 127) (hd : decode y.2.1 pc = .ok (.bastore, 1)) (hq : pc + 1 = q) (kk : Rj Y y q ls st (mset μ c i x) Q) : Rj Y y pc ls (vI x :: vI i :: vA z :: st) μ Q :=
  Rj_bast hz g.1 g.2.1 g.2.2 hi hx hd hq kk
theorem nar_z0 : vp_nar .boolean (Int32.ofInt 0) = Int32.ofInt 0 := by decide +kernel
theorem nar_z1 : vp_nar .boolean (Int32.ofInt 1) = Int32.ofInt 1 := by decide +kernel
theorem nar_z {x : Int} (h : x = 0 ∨ x = 1) : vp_nar .boolean (Int32.ofInt x) = Int32.ofInt x := by
  rcases h with rfl | rfl
  · exact nar_z0
  · exact nar_z1
theorem Rj_zs {c n : Nat} {z i x : Int} (g : AI Y c .boolean n) (hz : z.toNat = c) (hi : 0 ≤ i ∧ i < (n : Int)) (hx : x = 0 ∨ x = 1) (hd : decode y.2.1 pc = .ok (.bastore, 1)) (hq : pc + 1 = q) (kk : Rj Y y q ls st (mset μ c i x) Q) : Rj Y y pc ls (vI x :: vI i :: vA z :: st) μ Q :=
  Rj_zast hz g.1 g.2.1 g.2.2 hi (nar_z hx) hd hq kk
theorem Rj_al {c n : Nat} {z zn : Int} {ty : FieldType} (g : AI Y c ty n) (hz : z.toNat = c) (hn : (n : Int) = zn) (hd : decode y.2.1 pc = .ok (.arraylength, 1)) (hq : pc + 1 = q) (kk : Rj Y y q ls (vI zn :: st) μ Q) : Rj Y y pc ls (vA z :: st) μ Q :=
  Rj_alen hz g.1 g.2.1 hn hd hq kk
theorem Rj_vo {z : Mt} {idx c np : Nat} {as la : List PV} {zc : Int} {rt : FieldType} (g : OI Y c z) (hlk : Cond.methodLink y.1.cls idx z.1 ∈ lw_tbl) (hz : MW z np) (hv : MV z) (hc : zc.toNat = c)
    (hd : decode y.2.1 pc = .ok (.invokevirtual idx, 3)) (hq : pc + 3 = q) (hst : as.reverse ++ vA zc :: rest = st) (hla : argL (vA zc :: as) = la) (hok : callOk y z (vA zc :: as) rest (np + 1) = true) (hrt : z.2.2.2.1 = some rt)
    (k : Rj Y z 0 la [] μ (fun r μ' => Rj Y y q ls (r :: rest) μ' Q)) : Rj Y y pc ls st μ Q := by
  obtain ⟨h0, ci, n, fk, h1, h2⟩ := g
  exact Rj_cv hlk hz hv hc (Nat.ble_eq_true_of_le h0) h1 h2 hd hq hst hla hok hrt k
theorem Rj_vov {z : Mt} {idx c np : Nat} {as la : List PV} {zc : Int} (g : OI Y c z) (hlk : Cond.methodLink y.1.cls idx z.1 ∈ lw_tbl) (hz : MW z np) (hv : MV z) (hc : zc.toNat = c)
    (hd : decode y.2.1 pc = .ok (.invokevirtual idx, 3)) (hq : pc + 3 = q) (hst : as.reverse ++ vA zc :: rest = st) (hla : argL (vA zc :: as) = la) (hok : callOk y z (vA zc :: as) rest (np + 1) = true) (hrt : z.2.2.2.1 = none)
    (k : Rj Y z 0 la [] μ (fun _ μ' => Rj Y y q ls rest μ' Q)) : Rj Y y pc ls st μ Q := by
  obtain ⟨h0, ci, n, fk, h1, h2⟩ := g
  exact Rj_cvv hlk hz hv hc (Nat.ble_eq_true_of_le h0) h1 h2 hd hq hst hla hok hrt k
/-- branches on truth values -/
theorem Rj_b_eq {b : Bool} {off : Int} {t : Nat} (hd : decode y.2.1 pc = .ok (.ifCond .eq off, 3)) (hq : pc + 3 = q) (ht : (pc : Int) + off = (t : Int)) (kt : b = false → Rj Y y t ls st μ Q) (kf : b = true → Rj Y y q ls st μ Q) : Rj Y y pc ls (vI (bI b) :: st) μ Q :=
  Rj_if_eq hd hq ht (bI_32 b) (fun h => kt (by cases b <;> simp_all [bI])) (fun h => kf (by cases b <;> simp_all [bI]))
theorem Rj_b_ne {b : Bool} {off : Int} {t : Nat} (hd : decode y.2.1 pc = .ok (.ifCond .ne off, 3)) (hq : pc + 3 = q) (ht : (pc : Int) + off = (t : Int)) (kt : b = true → Rj Y y t ls st μ Q) (kf : b = false → Rj Y y q ls st μ Q) : Rj Y y pc ls (vI (bI b) :: st) μ Q :=
  Rj_if_ne hd hq ht (bI_32 b) (fun h => kt (by cases b <;> simp_all [bI])) (fun h => kf (by cases b <;> simp_all [bI]))
theorem nar_bb (b : Bool) : narrow .boolean (.int (Int32.ofInt (bI b))) = .int (Int32.ofInt (bI b)) := by
  cases b
  · decide +kernel
  · decide +kernel
theorem Rj_bret {b : Bool} (hd : decode y.2.1 pc = .ok (.ireturn, 1)) (hr0 : y.2.2.2.1 = some .boolean) (k : Q (vI (bI b)) μ) : Rj Y y pc ls [vI (bI b)] μ Q := Rj_zret hd hr0 (nar_bb b) k
theorem Rj_bret1 (hd : decode y.2.1 pc = .ok (.ireturn, 1)) (hr0 : y.2.2.2.1 = some .boolean) (k : Q (vI 1) μ) : Rj Y y pc ls [vI 1] μ Q := Rj_zret hd hr0 (nar_bb true) k
theorem Rj_bret0 (hd : decode y.2.1 pc = .ok (.ireturn, 1)) (hr0 : y.2.2.2.1 = some .boolean) (k : Q (vI 0) μ) : Rj Y y pc ls [vI 0] μ Q := Rj_zret hd hr0 (nar_bb false) k
theorem Rj_eqm {μ' : Mem} (h : μ = μ') (k : Rj Y y pc ls st μ' Q) : Rj Y y pc ls st μ Q := h ▸ k
end SHORT
theorem mset_mset (μ : Mem) (c : Nat) (i v w : Int) : mset (mset μ c i v) c i w = mset μ c i w := by
  funext d j; simp only [mset]; split <;> simp_all
theorem mset_swap (μ : Mem) (c d : Nat) (i j v w : Int) (h : ¬ (c = d ∧ i = j)) : mset (mset μ c i v) d j w = mset (mset μ d j w) c i v := by
  funext e k; simp only [mset]
  by_cases h1 : e = c ∧ k = i
  · by_cases h2 : e = d ∧ k = j
    · exact absurd ⟨h1.1.symm.trans h2.1, h1.2.symm.trans h2.2⟩ h
    · simp only [if_pos h1, if_neg h2]
  · simp only [if_neg h1]
theorem mset_id (μ : Mem) (c : Nat) (i : Int) : mset μ c i (μ c i) = μ := by
  funext d j; simp only [mset]; split
  · rename_i h; rw [h.1, h.2]
  · rfl
