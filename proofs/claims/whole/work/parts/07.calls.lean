/-! calls -/
def argL : List PV → List PV
  | [] => []
  | v :: t => if v.1 = 2 then v :: vU :: argL t else v :: argL t
def catN (v : PV) : Nat := if v.1 = 2 then 2 else 1
theorem pv_cat (G : Gd) (v : PV) : (pv G v).category = catN v := by
  unfold catN
  by_cases h : v.1 = 2
  · obtain ⟨a, b⟩ := v
    cases h
    rfl
  · rw [if_neg h, pv_cat1 h]
theorem catN2 (v : PV) : catN v = 2 ↔ v.1 = 2 := by unfold catN; split <;> simp_all
theorem argL_len (G : Gd) : ∀ as : List PV, (lg_sl (as.map (pv G))).length = (argL as).length
  | [] => rfl
  | v :: t => by
    have ih := argL_len G t
    unfold lg_sl at ih ⊢
    rw [List.map_cons, List.flatMap_cons, List.length_append, ih, pv_cat]
    rw [show argL (v :: t) = if v.1 = 2 then v :: vU :: argL t else v :: argL t from rfl]
    unfold catN
    split <;> simp <;> omega
theorem argL_mem (G : Gd) : ∀ (as : List PV) (i j : Nat) (w : PV), (argL as)[j]? = some w → w.1 ≠ 0 → (i + j, pv G w) ∈ lv_args i (as.map (pv G))
  | [], i, j, w, h, hw => by simp [argL] at h
  | v :: t, i, j, w, h, hw => by
    rw [List.map_cons]
    rw [show lv_args i (pv G v :: t.map (pv G)) = (i, pv G v) :: lv_args (if (pv G v).category = 2 then i + 2 else i + 1) (t.map (pv G)) from rfl, pv_cat]
    rw [show argL (v :: t) = if v.1 = 2 then v :: vU :: argL t else v :: argL t from rfl] at h
    by_cases h2 : v.1 = 2
    · rw [if_pos h2] at h
      rw [if_pos ((catN2 v).mpr h2)]
      match j, h with
      | 0, h => simp at h; subst h; exact List.mem_cons_self
      | 1, h => simp at h; subst h; exact absurd rfl hw
      | j + 2, h =>
        have := argL_mem G t (i + 2) j w (by simpa using h) hw
        rw [show i + (j + 2) = i + 2 + j by omega]
        exact List.mem_cons_of_mem _ this
    · rw [if_neg h2] at h
      rw [if_neg (fun q => h2 ((catN2 v).mp q))]
      match j, h with
      | 0, h => simp at h; subst h; exact List.mem_cons_self
      | j + 1, h =>
        have := argL_mem G t (i + 1) j w (by simpa using h) hw
        rw [show i + (j + 1) = i + 1 + j by omega]
        exact List.mem_cons_of_mem _ this
/-- the words of a method -/
def MW (z : Mt) (n : Nat) : Prop := Cond.code z.1 z.2.1 z.2.2.1 z.2.2.2.1 ∈ lw_tbl ∧ Cond.initialized z.1.cls ∈ lw_tbl ∧ z.1.cls ≠ "java/lang/invoke/MethodHandle" ∧ z.1.cls ≠ "java/lang/invoke/VarHandle" ∧ plainFor z.1 = true ∧ (parseMethodDescriptor z.1.desc).map (fun d => d.parameters.length) = some n
def MV (z : Mt) : Prop := Cond.instanceMethod z.1 ∈ lw_tbl ∧ Cond.selects z.1.cls z.1 z.1 ∈ lw_tbl
theorem SW.at {Y : Ly} {G : Gd} {s U : State} {H : Heap} {locs : List Loc} (h : SW Y G s) (hS : va_S (Aof Y G) s.heap H locs) (hU : U.heap = H) (hW : s.WarmedH U.vm) : SW Y G U := by
  refine ⟨TW.warm hW h.1, KK.moved hW.alike h.2.1, h.2.2.1, ?_⟩
  rw [hU]
  exact (h.2.2.2.kept hS.2.1).moved hW
/-- Met.ofW for a method of a class of which some methods are the machine's own -/
theorem Met_ofWF {l : Launch} {y : MethodName} {ws ws' : List Cond} {rm : Room} {Pc : Array Value → State → Prop} {Qc : Array Value → State → Outcome → State → Prop} {mc ms : Nat} {free : Addr → Prop} {cc : ByteArray} {maxL : Nat} {ret : Option FieldType}
    (hy : plainFor y = true) (hw : ws = Cond.code y cc maxL ret :: ws')
    (body : ∀ p e s m args below meth c s₁, BodyLoose p l y (headSpec ws rm) cc maxL ret e s m args below meth c s₁ → c.maxLocals = maxL → Pc args s →
      W p l e (headSpec ws rm).room s m args below meth c s.heap [] 0 0 (MQ below Qc args s mc ms free) (entryFrame m args maxL)) : Met l y ws rm Pc Qc mc ms free := by
  refine MetFree.of_bodySF (code := cc) (maxLocals := maxL) (ret := ret) hy ?_ ?_
  · intro args s m h hn
    obtain ⟨meth, c, h1, h2, h3, h4, h5, h6, -, -⟩ := Cond.code_spec hn (atoms_spec (ws := ws) h _ (by rw [hw]; exact List.mem_cons_self))
    exact ⟨meth, c, h1, h2, h3, h4, h5, h6⟩
  · intro p e s m args below meth c s₁ B hml hP _
    have hh0 : s₁.heap = s.heap := by rw [B.state]; rfl
    obtain ⟨t, a1, o, b1, b2, b3⟩ := body p e s m args below meth c s₁ B hml hP s₁ hh0 (Stand.of_body B)
    exact ⟨t, o, a1, b1, b2, ⟨b3.1, b3.2⟩⟩
theorem Met_of {Y : Ly} {z : Mt} {as : List PV} {μ : Mem} {Q : PV → Mem → Prop} (hn : plainFor z.1 = true) (hlen : (argL as).length ≤ z.2.2.1) (h : Rj Y z 0 (argL as) [] μ Q) (l : Launch) (G : Gd) :
    Met l z.1 [Cond.code z.1 z.2.1 z.2.2.1 z.2.2.2.1] (rmOf z) (va_Pc (as.map (pv G)) (fun U => va_P (dG G) classes (wld Y G μ) U.heap ∧ SW Y G U)) (Qm Y z G Q) 0 0 (Aof Y G) := by
  refine Met_ofWF (cc := z.2.1) (maxL := z.2.2.1) (ret := z.2.2.2.1) hn rfl ?_
  intro p e s m args below meth c s₁ B hml hv
  obtain ⟨rfl, hP, hSW⟩ := hv
  rw [lg_entry_eq]
  have hle := lv_entry (as.map (pv G)) (n := z.2.2.1) (by rw [argL_len]; exact hlen)
  refine h l p e s m _ below meth c G s.heap [] _ ⟨B.exec, B.bytes, B.returns, hml, findClass_of_methodNamed B.named, B.notSynchronized, hSW⟩ hP va_S.rf ⟨hle.1, hle.2.1, fun q hq => hle.2.2 q ?_⟩
  obtain ⟨v, h1, h2, h3⟩ := toL_mem.mp hq
  have := argL_mem G as 0 q.1 v h1 h2
  rw [Nat.zero_add, ← h3] at this
  exact this
theorem Pc_blind {Y : Ly} {G : Gd} {μ : Mem} {av : List Value} : FrameBlind (va_Pc av (fun U => va_P (dG G) classes (wld Y G μ) U.heap ∧ SW Y G U)) := by
  intro a U g mk h
  obtain ⟨h1, h2, h3⟩ := h
  refine ⟨h1, h2, ?_⟩
  exact SW.at (H := U.heap) (locs := []) h3 va_S.rf rfl (State.WarmedH.refl U)
def callOk (y z : Mt) (as rest : List PV) (n : Nat) : Bool := Nat.ble (z.2.2.2.2.1 + 1) y.2.2.2.2.1 && (Nat.ble (8 + (z.2.2.1 + 11) + z.2.2.2.2.2) y.2.2.2.2.2 && (Nat.ble ((rest.map catN).sum) 8 && (Nat.ble (argL as).length z.2.2.1 && Nat.beq as.length n)))
theorem callOk_spec {y z : Mt} {as rest : List PV} {n : Nat} (h : callOk y z as rest n = true) : z.2.2.2.2.1 + 1 ≤ y.2.2.2.2.1 ∧ 8 + (z.2.2.1 + 11) + z.2.2.2.2.2 ≤ y.2.2.2.2.2 ∧ (rest.map catN).sum ≤ 8 ∧ (argL as).length ≤ z.2.2.1 ∧ as.length = n := by
  unfold callOk at h
  simp only [Bool.and_eq_true] at h
  exact ⟨Nat.le_of_ble_eq_true h.1, Nat.le_of_ble_eq_true h.2.1, Nat.le_of_ble_eq_true h.2.2.1, Nat.le_of_ble_eq_true h.2.2.2.1, Nat.eq_of_beq_eq_true h.2.2.2.2⟩
theorem cats (G : Gd) (rest : List PV) : ((rest.map (pv G)).map fun v => v.category).sum = (rest.map catN).sum := by
  rw [List.map_map]
  congr 1
  apply List.map_congr_left
  intro a _
  exact pv_cat G a
section CALL
variable {Y : Ly} {y : Mt} {pc q : Nat} {ls st rest : List PV} {μ : Mem} {Q : PV → Mem → Prop}
theorem Rj_after {p : Program} {l : Launch} {e : Env} {s : State} {m : MethodId} {args a : Array Value} {below : List Frame} {meth : Method} {c : Code} {G : Gd} {H : Heap} {locs : List Loc} {la : Array Slot} {sv : List Value} {z : Mt} {Q' : PV → Mem → Prop}
    (hC : Cx Y y p s m meth c G) (hS : va_S (Aof Y G) s.heap H locs) (hl : lv_has la y.2.2.1 (toL G ls))
    (hr : va_Run p l e (rmOf y) s m args below meth c H locs 0 0 0 0 (F0 m pc la sv) (rest.map (pv G)) (Qm Y z G Q' a) (Aof Y G))
    (hk : ∀ (r : PV) (μ' : Mem), (r.1 = 0 ↔ z.2.2.2.1 = none) → Q' r μ' → Rj Y y (pc + 3) ls (if r.1 = 0 then rest else r :: rest) μ' Q) :
    W p l e (rmOf y) s m args below meth c H locs 0 0 (MQ below (Qm Y y G Q) args s 0 0 (Aof Y G)) (F0 m pc la sv) := by
  intro T hT X
  obtain ⟨v, st₀, t, T', L, h0, X', hL, e1, e2, ⟨⟨r, μ', hv, hr0, hq, hp⟩, hz, hkp⟩, sp⟩ := hr T hT X
  rw [h0] at hz hkp
  have hv' : v = pvo G r := by injection hv
  have hS1 : va_S (Aof Y G) s.heap T'.heap (locs ++ L) := by
    refine ⟨Nat.le_trans hS.1 (by rw [e1]; exact hz), fun q h1 h2 => ?_, fun q hq => ?_⟩
    · rw [e1, hkp q (Nat.lt_of_lt_of_le h1 hS.1) h2]; exact hS.2.1 q h1 h2
    · rcases List.mem_append.mp hq with h | h
      · exact hS.2.2 q h
      · exact hL q h
  obtain ⟨t2, a1, b1⟩ := hk r μ' hr0 hq l p e s m args below meth c G T'.heap (locs ++ L) la hC (by rw [e1]; exact hp) hS1 hl T' rfl X'
  refine ⟨t2, sp t2 ?_, b1⟩
  have hst : v.toList ++ rest.map (pv G) = (if r.1 = 0 then rest else r :: rest).map (pv G) := by
    rw [hv']
    unfold pvo
    split <;> rfl
  show Steps p.tables e below (T'.setTop (F0 m (pc + 3) la (v.toList ++ rest.map (pv G)))) t2
  rw [hst]
  exact a1
theorem Rj_callV0 {z : Mt} {idx ci n c np : Nat} {as : List PV} {zc : Int} {fk : Nat → Option (Option Nat)} {Q' : PV → Mem → Prop} (hlk : Cond.methodLink y.1.cls idx z.1 ∈ lw_tbl) (hz : MW z np) (hv : MV z) (hc : zc.toNat = c) (hcY : Nat.ble (c + 1) Y.1 = true) (hY : Y.2.1 c = .inr (ci, n, fk)) (hcl : (classes[ci]?).map (fun q => q.1) = some z.1.cls)
    (hd : decode y.2.1 pc = .ok (.invokevirtual idx, 3)) (hok : callOk y z (vA zc :: as) rest (np + 1) = true) (k : Rj Y z 0 (argL (vA zc :: as)) [] μ Q')
    (hk : ∀ (r : PV) (μ' : Mem), (r.1 = 0 ↔ z.2.2.2.1 = none) → Q' r μ' → Rj Y y (pc + 3) ls (if r.1 = 0 then rest else r :: rest) μ' Q) : Rj Y y pc ls (as.reverse ++ vA zc :: rest) μ Q := by
  subst hc
  intro l p e s m args below meth c G H locs la hC hP hS hl
  obtain ⟨hx, hb, hr, hml, hown, hlkk, hSW⟩ := id hC
  obtain ⟨o1, o2, o3, o4, o5⟩ := callOk_spec hok
  obtain ⟨z1, z2, z3, z4, z5, z6⟩ := hz
  have hM := Met_of z5 o4 k l G
  have hcc : zc.toNat < Y.1 := Nat.le_of_ble_eq_true hcY
  have he := wld_get (G := G) (μ := μ) hcc
  rw [wC_obj hY] at he
  obtain ⟨qc, hq1, hq2⟩ := Option.map_eq_some_iff.mp hcl
  refine Rj_after (rest := rest) (z := z) (Q' := Q') hC hS hl (va_runV (C := z.1.cls) (bytes := z.2.1) (maxL := z.2.2.1) (ret := z.2.2.2.1) (index := idx) (n := np) (As := as.map (pv G)) (b := G.1 zc.toNat) (Ts := []) ⟨hx, hb, hml, hown, fun w hw => by cases hw⟩ hM
    ⟨⟨rfl, rfl, o1, o2, fun w hw a' U hW => by
        rw [List.mem_singleton] at hw; subst hw
        exact TW.warm hW hSW.1 _ z1 rfl _, List.mem_singleton.mpr rfl, hSW.1 _ z1 rfl _, hSW.1 _ z2 rfl _, ⟨z3, z4⟩, fun sig h => by rw [h] at z6; exact (Option.some.inj z6).symm, hSW.1 _ hlk rfl _⟩, hSW.1 _ hv.1 rfl _, hSW.1 _ hv.2 rfl _⟩
    ⟨Pc_blind, ?_, fun U hU hW => ⟨rfl, by rw [hU]; exact hP, SW.at hSW hS hU hW⟩⟩ rfl (by rw [List.length_map]; simpa using o5) hl.1 ?_ (lv_room (by rw [cats]; exact o3)) hd ⟨Nat.zero_le _, Nat.zero_le _⟩) hk
  · have := va_recv hSW.2.1.1 hP hq1 he
    rwa [hq2] at this
  · show ((as.reverse ++ vA zc :: rest).map (pv G)) = _
    rw [List.map_append, List.map_reverse]; rfl
theorem Rj_callS0 {z : Mt} {idx np : Nat} {as : List PV} {Q' : PV → Mem → Prop} (hlk : Cond.methodLink y.1.cls idx z.1 ∈ lw_tbl ∨ ∃ host, Cond.methodLinkNest y.1.cls idx z.1 host ∈ lw_tbl) (hz : MW z np) (hv : Cond.static z.1 ∈ lw_tbl)
    (hd : decode y.2.1 pc = .ok (.invokestatic idx, 3)) (hok : callOk y z as rest np = true) (k : Rj Y z 0 (argL as) [] μ Q')
    (hk : ∀ (r : PV) (μ' : Mem), (r.1 = 0 ↔ z.2.2.2.1 = none) → Q' r μ' → Rj Y y (pc + 3) ls (if r.1 = 0 then rest else r :: rest) μ' Q) : Rj Y y pc ls (as.reverse ++ rest) μ Q := by
  intro l p e s m args below meth c G H locs la hC hP hS hl
  obtain ⟨hx, hb, hr, hml, hown, hlkk, hSW⟩ := id hC
  obtain ⟨o1, o2, o3, o4, o5⟩ := callOk_spec hok
  obtain ⟨z1, z2, z3, z4, z5, z6⟩ := hz
  have hM := Met_of z5 o4 k l G
  have hst : ((as.reverse ++ rest).map (pv G)) = (as.map (pv G)).reverse ++ rest.map (pv G) := by
    rw [List.map_append, List.map_reverse]
  rcases hlk with hlk | ⟨host, hlk⟩
  · exact Rj_after (rest := rest) (z := z) (Q' := Q') hC hS hl (va_runS (bytes := z.2.1) (maxL := z.2.2.1) (ret := z.2.2.2.1) (index := idx) (n := np) (As := as.map (pv G)) (Ts := []) ⟨hx, hb, hml, hown, fun w hw => by cases hw⟩ hM
      ⟨⟨rfl, rfl, o1, o2, fun w hw a' U hW => by
          rw [List.mem_singleton] at hw; subst hw
          exact TW.warm hW hSW.1 _ z1 rfl _, List.mem_singleton.mpr rfl, hSW.1 _ z1 rfl _, hSW.1 _ z2 rfl _, ⟨z3, z4⟩, fun sig h => by rw [h] at z6; exact (Option.some.inj z6).symm, hSW.1 _ hlk rfl _⟩, hSW.1 _ hv rfl _⟩
      ⟨Pc_blind, fun U hU hW => ⟨rfl, by rw [hU]; exact hP, SW.at hSW hS hU hW⟩⟩ rfl (by rw [List.length_map]; exact o5) hl.1 hst (lv_room (by rw [cats]; exact o3)) hd ⟨Nat.zero_le _, Nat.zero_le _⟩) hk
  · exact Rj_after (rest := rest) (z := z) (Q' := Q') hC hS hl (va_runSN (bytes := z.2.1) (maxL := z.2.2.1) (ret := z.2.2.2.1) (index := idx) (n := np) (As := as.map (pv G)) (Ts := []) ⟨hx, hb, hml, hown, fun w hw => by cases hw⟩ hM
      ⟨⟨⟨rfl, rfl, o1, o2, fun w hw a' U hW => by
          rw [List.mem_singleton] at hw; subst hw
          exact TW.warm hW hSW.1 _ z1 rfl _, List.mem_singleton.mpr rfl⟩, hSW.1 _ z1 rfl _, hSW.1 _ z2 rfl _, ⟨z3, z4⟩, fun sig h => by rw [h] at z6; exact (Option.some.inj z6).symm, hSW.1 _ hlk rfl _⟩, hSW.1 _ hv rfl _, trivial⟩
      ⟨Pc_blind, fun U hU hW => ⟨rfl, by rw [hU]; exact hP, SW.at hSW hS hU hW⟩⟩ rfl (by rw [List.length_map]; exact o5) hl.1 hst (lv_room (by rw [cats]; exact o3)) hd ⟨Nat.zero_le _, Nat.zero_le _⟩) hk
/-- a call of an object's method that answers something -/
theorem Rj_cv {z : Mt} {idx ci n c np : Nat} {as la : List PV} {zc : Int} {fk : Nat → Option (Option Nat)} {rt : FieldType} (hlk : Cond.methodLink y.1.cls idx z.1 ∈ lw_tbl) (hz : MW z np) (hv : MV z) (hc : zc.toNat = c) (hcY : Nat.ble (c + 1) Y.1 = true) (hY : Y.2.1 c = .inr (ci, n, fk)) (hcl : (classes[ci]?).map (fun q => q.1) = some z.1.cls)
    (hd : decode y.2.1 pc = .ok (.invokevirtual idx, 3)) (hq : pc + 3 = q) (hst : as.reverse ++ vA zc :: rest = st) (hla : argL (vA zc :: as) = la) (hok : callOk y z (vA zc :: as) rest (np + 1) = true) (hrt : z.2.2.2.1 = some rt)
    (k : Rj Y z 0 la [] μ (fun r μ' => Rj Y y q ls (r :: rest) μ' Q)) : Rj Y y pc ls st μ Q := by
  subst hst; subst hla; subst hq
  exact Rj_callV0 hlk hz hv hc hcY hY hcl hd hok k (fun r μ' h1 h2 => by
    rw [if_neg (fun h => by rw [h1.mp h] at hrt; cases hrt)]; exact h2)
theorem Rj_cvv {z : Mt} {idx ci n c np : Nat} {as la : List PV} {zc : Int} {fk : Nat → Option (Option Nat)} (hlk : Cond.methodLink y.1.cls idx z.1 ∈ lw_tbl) (hz : MW z np) (hv : MV z) (hc : zc.toNat = c) (hcY : Nat.ble (c + 1) Y.1 = true) (hY : Y.2.1 c = .inr (ci, n, fk)) (hcl : (classes[ci]?).map (fun q => q.1) = some z.1.cls)
    (hd : decode y.2.1 pc = .ok (.invokevirtual idx, 3)) (hq : pc + 3 = q) (hst : as.reverse ++ vA zc :: rest = st) (hla : argL (vA zc :: as) = la) (hok : callOk y z (vA zc :: as) rest (np + 1) = true) (hrt : z.2.2.2.1 = none)
    (k : Rj Y z 0 la [] μ (fun _ μ' => Rj Y y q ls rest μ' Q)) : Rj Y y pc ls st μ Q := by
  subst hst; subst hla; subst hq
  exact Rj_callV0 hlk hz hv hc hcY hY hcl hd hok k (fun r μ' h1 h2 => by
    rw [if_pos (h1.mpr hrt)]; exact h2)
/-- a call of a static method -/
theorem Rj_cs {z : Mt} {idx np : Nat} {as la : List PV} {rt : FieldType} (hlk : Cond.methodLink y.1.cls idx z.1 ∈ lw_tbl ∨ ∃ host, Cond.methodLinkNest y.1.cls idx z.1 host ∈ lw_tbl) (hz : MW z np) (hv : Cond.static z.1 ∈ lw_tbl)
    (hd : decode y.2.1 pc = .ok (.invokestatic idx, 3)) (hq : pc + 3 = q) (hst : as.reverse ++ rest = st) (hla : argL as = la) (hok : callOk y z as rest np = true) (hrt : z.2.2.2.1 = some rt)
    (k : Rj Y z 0 la [] μ (fun r μ' => Rj Y y q ls (r :: rest) μ' Q)) : Rj Y y pc ls st μ Q := by
  subst hst; subst hla; subst hq
  exact Rj_callS0 hlk hz hv hd hok k (fun r μ' h1 h2 => by
    rw [if_neg (fun h => by rw [h1.mp h] at hrt; cases hrt)]; exact h2)
theorem Rj_csv {z : Mt} {idx np : Nat} {as la : List PV} (hlk : Cond.methodLink y.1.cls idx z.1 ∈ lw_tbl ∨ ∃ host, Cond.methodLinkNest y.1.cls idx z.1 host ∈ lw_tbl) (hz : MW z np) (hv : Cond.static z.1 ∈ lw_tbl)
    (hd : decode y.2.1 pc = .ok (.invokestatic idx, 3)) (hq : pc + 3 = q) (hst : as.reverse ++ rest = st) (hla : argL as = la) (hok : callOk y z as rest np = true) (hrt : z.2.2.2.1 = none)
    (k : Rj Y z 0 la [] μ (fun _ μ' => Rj Y y q ls rest μ' Q)) : Rj Y y pc ls st μ Q := by
  subst hst; subst hla; subst hq
  exact Rj_callS0 hlk hz hv hd hok k (fun r μ' h1 h2 => by
    rw [if_pos (h1.mpr hrt)]; exact h2)
/-- switches -/
theorem Rj_tsI {dflt lo hi x off : Int} {offs : Array Int} {len t : Nat} (hd : decode y.2.1 pc = .ok (.tableswitch dflt lo hi offs, len)) (hx0 : i32 x) (h1 : lo ≤ x) (h2 : x ≤ hi) (ho : offs[(x - lo).toNat]? = some off) (ht : (pc : Int) + off = (t : Int)) (k : Rj Y y t ls st μ Q) : Rj Y y pc ls (vI x :: st) μ Q := by
  intro l p e s m args below meth c G H locs la hC hP hS hl
  obtain ⟨hx, hb, hr, hml, hown, hlkk, hSW⟩ := id hC
  exact lv_tableIn hx hb hd (by rw [o32 hx0]; omega) (by rw [o32 hx0]; omega) (by rw [o32 hx0]; exact ho) ht (k l p e s m args below meth c G H locs la hC hP hS hl)
theorem Rj_tsO {dflt lo hi x : Int} {offs : Array Int} {len t : Nat} (hd : decode y.2.1 pc = .ok (.tableswitch dflt lo hi offs, len)) (hx0 : i32 x) (h1 : x < lo ∨ hi < x) (ht : (pc : Int) + dflt = (t : Int)) (k : Rj Y y t ls st μ Q) : Rj Y y pc ls (vI x :: st) μ Q := by
  intro l p e s m args below meth c G H locs la hC hP hS hl
  obtain ⟨hx, hb, hr, hml, hown, hlkk, hSW⟩ := id hC
  exact lv_tableOut hx hb hd (by rw [o32 hx0]; exact h1) ht (k l p e s m args below meth c G H locs la hC hP hS hl)
end CALL
