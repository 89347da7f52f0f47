/-! the law calls -/
section LCALL
variable {G G2 : Gd} {b L pc q : Nat} {xs : Nat → Int32} {ls st rest : List PV} {μ ν : Mem}
def lawOk (z : Mt) (as : List PV) (n : Nat) : Bool := Nat.ble (z.2.2.2.2.1 + 1) 15 && (Nat.ble (8 + (z.2.2.1 + 11) + z.2.2.2.2.2) 572 && (Nat.ble (argL as).length z.2.2.1 && Nat.beq as.length n))
theorem lawOk_spec {z : Mt} {as : List PV} {n : Nat} (h : lawOk z as n = true) : z.2.2.2.2.1 + 1 ≤ 15 ∧ 8 + (z.2.2.1 + 11) + z.2.2.2.2.2 ≤ 572 ∧ (argL as).length ≤ z.2.2.1 ∧ as.length = n := by
  unfold lawOk at h
  simp only [Bool.and_eq_true] at h
  exact ⟨Nat.le_of_ble_eq_true h.1, Nat.le_of_ble_eq_true h.2.1, Nat.le_of_ble_eq_true h.2.2.1, Nat.eq_of_beq_eq_true h.2.2.2⟩
theorem Lj_afterX {p : Program} {l : Launch} {e : Env} {s : State} {m : MethodId} {a : Array Value} {below : List Frame} {meth : Method} {c : Code} {H : Heap} {locs : List Loc} {la : Array Slot} {sv : List Value} {z : Mt} {Q' : PV → Mem → Prop} (hX : LX p s m meth c b L xs G G2) (hO : va_P (dG G2) classes (wld YM G2 ν) H) (hS : va_S (fun q : Nat => s.heap.size ≤ q) s.heap H locs) (hl : lv_has la 4 (toL G ls))
    (hr : va_Run p l e room_1 s m #[Value.ref b] below meth c H locs 600000 7302250 0 0 (F0 m pc la sv) (rest.map (pv G)) (Qm YD z G Q' a) (Aof YD G)) (hk : ∀ (r : PV) (μ' : Mem), (r.1 = 0 ↔ z.2.2.2.1 = none) → Q' r μ' → Lj G G2 b L xs (pc + 3) ls (if r.1 = 0 then rest else r :: rest) μ' ν) :
    W p l e room_1 s m #[Value.ref b] below meth c H locs 600000 7302250 (lw_Z below #[Value.ref b] s) (F0 m pc la sv) := by
  obtain ⟨-, hSD, hSM, hAD, hAM, hdis⟩ := id hX
  intro T hT X
  obtain ⟨v, st₀, t, T', LL, h0, X', hL, e1, e2, ⟨⟨r, μ', hv, hr0, hq, hp⟩, hz, hkp⟩, sp⟩ := hr T hT X
  rw [h0] at hz hkp
  have hv' : v = pvo G r := by injection hv
  have hS1 : va_S (fun q : Nat => s.heap.size ≤ q) s.heap T'.heap (locs ++ LL) := by
    refine ⟨Nat.le_trans hS.1 (by rw [e1]; exact hz), fun q h1 h2 => ?_, fun q hq => ?_⟩
    · rw [e1, hkp q (Nat.lt_of_lt_of_le h1 hS.1) (fun w => by obtain ⟨i, hi, ee⟩ := w; exact h2 (by rw [ee]; exact hAD i hi))]
      exact hS.2.1 q h1 h2
    · rcases List.mem_append.mp hq with h | h
      · exact hS.2.2 q h
      · obtain ⟨i, hi, ee⟩ := hL q h
        show s.heap.size ≤ q.base
        rw [ee]; exact hAD i hi
  have hO1 : va_P (dG G2) classes (wld YM G2 ν) T'.heap := by
    intro kq w hw
    have aa := hO kq w hw
    refine aa.kept ?_
    rw [e1]
    refine hkp _ aa.lt (fun u => ?_)
    obtain ⟨i, hi, ee⟩ := u
    have hj : kq < YM.1 := by have := (List.getElem?_eq_some_iff.mp hw).1; rwa [wld_len] at this
    rw [wld_get hj] at hw
    cases hw
    exact hdis i kq hi hj ee.symm
  obtain ⟨t2, a1, b1⟩ := hk r μ' hr0 hq l p e s m below meth c T'.heap (locs ++ LL) la hX (by rw [e1]; exact hp) hO1 hS1 hl T' rfl X'
  refine ⟨t2, sp t2 ?_, b1⟩
  have hst : v.toList ++ rest.map (pv G) = (if r.1 = 0 then rest else r :: rest).map (pv G) := by
    rw [hv']
    unfold pvo
    split <;> rfl
  show Steps p.tables e below (T'.setTop (F0 m (pc + 3) la (v.toList ++ rest.map (pv G)))) t2
  rw [hst]
  exact a1
theorem pv_12 {G G2 : Gd} {r : PV} (h : r.1 = 1 ∨ r.1 = 2) : pv G2 r = pv G r := by
  obtain ⟨a, z⟩ := r
  rcases h with h | h <;> (cases h; rfl)
theorem Lj_afterM {p : Program} {l : Launch} {e : Env} {s : State} {m : MethodId} {a : Array Value} {below : List Frame} {meth : Method} {c : Code} {H : Heap} {locs : List Loc} {la : Array Slot} {sv : List Value} {z : Mt} {Q' : PV → Mem → Prop} (hX : LX p s m meth c b L xs G G2) (hO : va_P (dG G) classes (wld YD G μ) H) (hS : va_S (fun q : Nat => s.heap.size ≤ q) s.heap H locs) (hl : lv_has la 4 (toL G ls))
    (hr : va_Run p l e room_1 s m #[Value.ref b] below meth c H locs 600000 7302250 0 0 (F0 m pc la sv) (rest.map (pv G)) (Qm YM z G2 Q' a) (Aof YM G2)) (hk : ∀ (r : PV) (ν' : Mem), Q' r ν' → (r.1 = 1 ∨ r.1 = 2) ∧ Lj G G2 b L xs (pc + 3) ls (r :: rest) μ ν') :
    W p l e room_1 s m #[Value.ref b] below meth c H locs 600000 7302250 (lw_Z below #[Value.ref b] s) (F0 m pc la sv) := by
  obtain ⟨-, hSD, hSM, hAD, hAM, hdis⟩ := id hX
  intro T hT X
  obtain ⟨v, st₀, t, T', LL, h0, X', hL, e1, e2, ⟨⟨r, μ', hv, hr0, hq, hp⟩, hz, hkp⟩, sp⟩ := hr T hT X
  rw [h0] at hz hkp
  have hv' : v = pvo G2 r := by injection hv
  have hS1 : va_S (fun q : Nat => s.heap.size ≤ q) s.heap T'.heap (locs ++ LL) := by
    refine ⟨Nat.le_trans hS.1 (by rw [e1]; exact hz), fun q h1 h2 => ?_, fun q hq => ?_⟩
    · rw [e1, hkp q (Nat.lt_of_lt_of_le h1 hS.1) (fun w => by obtain ⟨i, hi, ee⟩ := w; exact h2 (by rw [ee]; exact hAM i hi))]
      exact hS.2.1 q h1 h2
    · rcases List.mem_append.mp hq with h | h
      · exact hS.2.2 q h
      · obtain ⟨i, hi, ee⟩ := hL q h
        show s.heap.size ≤ q.base
        rw [ee]; exact hAM i hi
  have hO1 : va_P (dG G) classes (wld YD G μ) T'.heap := by
    intro kq w hw
    have aa := hO kq w hw
    refine aa.kept ?_
    rw [e1]
    refine hkp _ aa.lt (fun u => ?_)
    obtain ⟨i, hi, ee⟩ := u
    have hj : kq < YD.1 := by have := (List.getElem?_eq_some_iff.mp hw).1; rwa [wld_len] at this
    rw [wld_get hj] at hw
    cases hw
    exact hdis kq i hj hi ee
  obtain ⟨h12, hk⟩ := hk r μ' hq
  obtain ⟨t2, a1, b1⟩ := hk l p e s m below meth c T'.heap (locs ++ LL) la hX hO1 (by rw [e1]; exact hp) hS1 hl T' rfl X'
  refine ⟨t2, sp t2 ?_, b1⟩
  have hst : v.toList ++ rest.map (pv G) = (r :: rest).map (pv G) := by
    rw [hv']
    unfold pvo
    rw [if_neg (by omega), pv_12 (G := G) h12]
    rfl
  show Steps p.tables e below (T'.setTop (F0 m (pc + 3) la (v.toList ++ rest.map (pv G)))) t2
  rw [hst]
  exact a1
theorem Lj_callX {z : Mt} {idx np : Nat} {as : List PV} {Q' : PV → Mem → Prop} (hlk0 : Cond.methodLink R_law idx z.1 ∈ lw_tbl) (hz : MW z np) (hv : MV z) (hcl : (classes[9]?).map (fun q => q.1) = some z.1.cls) (hd : decode code pc = .ok (.invokevirtual idx, 3)) (hok : lawOk z (vA 0 :: as) (np + 1) = true) (hint : ∀ v ∈ as, v.1 = 1) (hrest : (rest.map catN).sum ≤ 8) (k : Rj YD z 0 (argL (vA 0 :: as)) [] μ Q') (hk : ∀ (r : PV) (μ' : Mem), (r.1 = 0 ↔ z.2.2.2.1 = none) → Q' r μ' → Lj G G2 b L xs (pc + 3) ls (if r.1 = 0 then rest else r :: rest) μ' ν) : Lj G G2 b L xs pc ls (as.reverse ++ vA 0 :: rest) μ ν := by
  intro l p e s m below meth c H locs la hX hP hQ hS hl
  obtain ⟨⟨hx, hb, hr, hml, hown, hts, hXs, hbl, hlk, hgv⟩, hSD, hSM, hAD, hAM, hdis⟩ := id hX
  obtain ⟨o1, o2, o4, o5⟩ := lawOk_spec hok
  obtain ⟨z1, z2, z3, z4, z5, z6⟩ := hz
  have hM := Met_of z5 o4 k l G
  have he := wld_get (Y := YD) (G := G) (μ := μ) (i := 0) (by decide)
  rw [wC_obj cD_0] at he
  obtain ⟨qc, hq1, hq2⟩ := Option.map_eq_some_iff.mp hcl
  have hS0 : va_S (Aof YD G) s.heap H [] := ⟨hS.1, fun q h1 _ => hS.2.1 q h1 (Nat.not_le.mpr h1), fun _ h => by cases h⟩
  have hmm : as.map (pv G) = as.map (pv G) := List.map_congr_left (fun v hv => pv_12 (G := G) (G2 := G) (Or.inl (hint v hv)))
  refine Lj_afterX (rest := rest) (z := z) (Q' := Q') hX hQ hS hl (va_runV (C := z.1.cls) (bytes := z.2.1) (maxL := z.2.2.1) (ret := z.2.2.2.1) (index := idx) (n := np) (As := as.map (pv G)) (b := G.1 0) (Ts := []) ⟨hx, hb, hml, hown, fun w hw => by cases hw⟩ hM
    ⟨⟨rfl, rfl, o1, o2, fun w hw a' U hW => by
        rw [List.mem_singleton] at hw; subst hw
        exact TW.warm hW hSD.1 _ z1 rfl _, List.mem_singleton.mpr rfl, hSD.1 _ z1 rfl _, hSD.1 _ z2 rfl _, ⟨z3, z4⟩, fun sig h => by rw [h] at z6; exact (Option.some.inj z6).symm, hSD.1 _ hlk0 rfl _⟩, hSD.1 _ hv.1 rfl _, hSD.1 _ hv.2 rfl _⟩
    ⟨Pc_blind, ?_, fun U hU hW => ⟨rfl, by rw [hU]; exact hP, SW.at hSD hS0 hU hW⟩⟩ rfl (by rw [List.length_map]; simpa using o5) hl.1 ?_ (lv_room (by rw [cats]; exact hrest)) hd ⟨Nat.le_refl _, Nat.le_refl _⟩) hk
  · have := va_recv hSD.2.1.1 hP hq1 he
    rwa [hq2] at this
  · show ((as.reverse ++ vA 0 :: rest).map (pv G)) = _
    rw [List.map_append, List.map_reverse, hmm]; rfl
theorem Lj_callM {z : Mt} {idx np : Nat} {as : List PV} {Q' : PV → Mem → Prop} (hlk0 : Cond.methodLink R_law idx z.1 ∈ lw_tbl) (hz : MW z np) (hv : MV z) (hcl : (classes[10]?).map (fun q => q.1) = some z.1.cls) (hd : decode code pc = .ok (.invokevirtual idx, 3)) (hok : lawOk z (vA 0 :: as) (np + 1) = true) (hint : ∀ v ∈ as, v.1 = 1) (hrest : (rest.map catN).sum ≤ 8) (k : Rj YM z 0 (argL (vA 0 :: as)) [] ν Q') (hk : ∀ (r : PV) (ν' : Mem), Q' r ν' → (r.1 = 1 ∨ r.1 = 2) ∧ Lj G G2 b L xs (pc + 3) ls (r :: rest) μ ν') : Lj G G2 b L xs pc ls (as.reverse ++ vR (G2.1 0 : Int) :: rest) μ ν := by
  intro l p e s m below meth c H locs la hX hP hQ hS hl
  obtain ⟨⟨hx, hb, hr, hml, hown, hts, hXs, hbl, hlk, hgv⟩, hSD, hSM, hAD, hAM, hdis⟩ := id hX
  obtain ⟨o1, o2, o4, o5⟩ := lawOk_spec hok
  obtain ⟨z1, z2, z3, z4, z5, z6⟩ := hz
  have hM := Met_of z5 o4 k l G2
  have he := wld_get (Y := YM) (G := G2) (μ := ν) (i := 0) (by decide)
  rw [wC_obj cM_0] at he
  obtain ⟨qc, hq1, hq2⟩ := Option.map_eq_some_iff.mp hcl
  have hS0 : va_S (Aof YM G2) s.heap H [] := ⟨hS.1, fun q h1 _ => hS.2.1 q h1 (Nat.not_le.mpr h1), fun _ h => by cases h⟩
  have hmm : as.map (pv G2) = as.map (pv G) := List.map_congr_left (fun v hv => pv_12 (G := G) (G2 := G2) (Or.inl (hint v hv)))
  refine Lj_afterM (rest := rest) (z := z) (Q' := Q') hX hP hS hl (va_runV (C := z.1.cls) (bytes := z.2.1) (maxL := z.2.2.1) (ret := z.2.2.2.1) (index := idx) (n := np) (As := as.map (pv G2)) (b := G2.1 0) (Ts := []) ⟨hx, hb, hml, hown, fun w hw => by cases hw⟩ hM
    ⟨⟨rfl, rfl, o1, o2, fun w hw a' U hW => by
        rw [List.mem_singleton] at hw; subst hw
        exact TW.warm hW hSM.1 _ z1 rfl _, List.mem_singleton.mpr rfl, hSM.1 _ z1 rfl _, hSM.1 _ z2 rfl _, ⟨z3, z4⟩, fun sig h => by rw [h] at z6; exact (Option.some.inj z6).symm, hSM.1 _ hlk0 rfl _⟩, hSM.1 _ hv.1 rfl _, hSM.1 _ hv.2 rfl _⟩
    ⟨Pc_blind, ?_, fun U hU hW => ⟨rfl, by rw [hU]; exact hQ, SW.at hSM hS0 hU hW⟩⟩ rfl (by rw [List.length_map]; simpa using o5) hl.1 ?_ (lv_room (by rw [cats]; exact hrest)) hd ⟨Nat.le_refl _, Nat.le_refl _⟩) hk
  · have := va_recv hSM.2.1.1 hQ hq1 he
    rwa [hq2] at this
  · show ((as.reverse ++ vR (G2.1 0 : Int) :: rest).map (pv G)) = _
    rw [List.map_append, List.map_reverse, hmm]; rfl
theorem catN_2 (r : PV) : ([r].map catN).sum ≤ 8 := by
  show catN r + 0 ≤ 8
  unfold catN; split <;> omega
end LCALL
