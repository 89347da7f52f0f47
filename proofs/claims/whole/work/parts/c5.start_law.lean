/-! from the entry -/
theorem w_k_law_D_init : Cond.code y_D_init.1 y_D_init.2.1 y_D_init.2.2.1 y_D_init.2.2.2.1 ∈ lw_tbl := in_tab1 _ (List.mem_of_getElem? (i := 24) rfl)
theorem w_n_law_D_init : Cond.initialized y_D_init.1.cls ∈ lw_tbl := in_tab1 _ (List.mem_of_getElem? (i := 1) rfl)
theorem w_m_law_D_init : Cond.instanceMethod y_D_init.1 ∈ lw_tbl := in_tab1 _ (List.mem_of_getElem? (i := 23) rfl)
theorem w_l_law_9 : Cond.methodLink "DoorsOnCogsLaw" 9 y_D_init.1 ∈ lw_tbl := in_tab1 _ (List.mem_of_getElem? (i := 22) rfl)
theorem w_d_law_D_init : (parseMethodDescriptor y_D_init.1.desc).map (fun d => d.parameters.length) = some 0 := by decide +kernel
theorem w_k_law_M_init : Cond.code y_M_init.1 y_M_init.2.1 y_M_init.2.2.1 y_M_init.2.2.2.1 ∈ lw_tbl := in_tab5 _ (List.mem_of_getElem? (i := 132) rfl)
theorem w_n_law_M_init : Cond.initialized y_M_init.1.cls ∈ lw_tbl := in_tab1 _ (List.mem_of_getElem? (i := 12) rfl)
theorem w_m_law_M_init : Cond.instanceMethod y_M_init.1 ∈ lw_tbl := in_tab5 _ (List.mem_of_getElem? (i := 131) rfl)
theorem w_l_law_12 : Cond.methodLink "DoorsOnCogsLaw" 12 y_M_init.1 ∈ lw_tbl := in_tab5 _ (List.mem_of_getElem? (i := 130) rfl)
theorem w_d_law_M_init : (parseMethodDescriptor y_M_init.1.desc).map (fun d => d.parameters.length) = some 0 := by decide +kernel
theorem w_cl_law_7 : Cond.classLink "DoorsOnCogsLaw" 7 RX9 ∈ lw_tbl := in_tab1 _ (List.mem_of_getElem? (i := 20) rfl)
theorem w_in_law_9 : Cond.instantiable RX9 15 ∈ lw_tbl := in_tab1 _ (List.mem_of_getElem? (i := 21) rfl)
theorem w_ii_law_9 : Cond.initialized RX9 ∈ lw_tbl := in_tab1 _ (List.mem_of_getElem? (i := 1) rfl)
theorem w_cl_law_10 : Cond.classLink "DoorsOnCogsLaw" 10 RX10 ∈ lw_tbl := in_tab5 _ (List.mem_of_getElem? (i := 128) rfl)
theorem w_in_law_10 : Cond.instantiable RX10 47 ∈ lw_tbl := in_tab5 _ (List.mem_of_getElem? (i := 129) rfl)
theorem w_ii_law_10 : Cond.initialized RX10 ∈ lw_tbl := in_tab1 _ (List.mem_of_getElem? (i := 12) rfl)
set_option maxHeartbeats 4000000 in
theorem start_law {p : Program} {l : Launch} {e : Env} {s : State} {m : MethodId} {below : List Frame} {meth : Method} {c : Code} {b L q0 m0 : Nat} {xs : Nat → Int32} {D : va_G} {adK adV a a2 : Nat → Nat} {k k2 : Nat → ClassId} {g1 g2 : Nat → Int64} {A : Nat → Prop} {H : Heap} {locs : List Loc} {ls : Array Slot} (hL : L ≤ 3072) (C0 : lw_At p s m meth c b L xs) (hTW : TW s) (hK0 : va_K D classes [] s)
    (hSK : ∀ G : Gd, G.2.1 = adK → G.2.2.1 = adV → ∀ A : Nat → Prop, (∀ q, A q → s.heap.size ≤ q) → SK G A s s.heap) (hKD : va_K D classes (TD_ k) s) (hKM : va_K D classes (TM_ k2) s) (hAe : (fun q : Nat => s.heap.size ≤ q) = A) (ha0 : a 0 = q0) (hm0 : a2 0 = m0) (hP : va_P D classes (WD a k g1 g2 ++ WM a2 k2) H) (hD : va_D A (WD a k g1 g2 ++ WM a2 k2)) (hS : va_S A s.heap H locs) (hl : lv_has ls 4 [(3, .int 0), (2, .ref m0), (1, .ref q0), (0, .ref b)]) :
    W p l e room_1 s m #[Value.ref b] below meth c H locs 600000 7302250 (lw_Z below #[Value.ref b] s) (F0 m 18 ls []) := by
  subst hAe
  have nD : (WD a k g1 g2).length = 89 := rfl
  have hDa : ∀ i, i < YD.1 → (WD a k g1 g2 ++ WM a2 k2)[piD.getD i 0]? = some (a i, wC YD (a, adK, adV, k, D) (muD g1 g2 i) i) := fun i hi => by
    rw [List.getElem?_append_left (by rw [nD]; exact piD_lt i hi)]
    exact WD_all i hi
  have hMa : ∀ i, i < YM.1 → (WD a k g1 g2 ++ WM a2 k2)[89 + piM.getD i 0]? = some (a2 i, wC YM (a2, adK, adV, k2, D) (nuM i) i) := fun i hi => by
    rw [List.getElem?_append_right (by rw [nD]; exact Nat.le_add_right _ _), nD, Nat.add_sub_cancel_left]
    exact WM_all i hi
  have hiD : ∀ i, i < YD.1 → s.heap.size ≤ a i := fun i hi => hD.2 _ _ (hDa i hi)
  have hiM : ∀ i, i < YM.1 → s.heap.size ≤ a2 i := fun i hi => hD.2 _ _ (hMa i hi)
  have hX : LX p s m meth c b L xs (a, adK, adV, k, D) (a2, adK, adV, k2, D) := by
    refine ⟨C0, ⟨hTW, ⟨hK0, KD_all hKD⟩, fun i j hi hj e => piD_inj i hi j hj (hD.1 _ _ _ _ (hDa i hi) (hDa j hj) e), hSK _ rfl rfl _ (fun q hq => ?_)⟩, ⟨hTW, ⟨hK0, KM_all hKM⟩, fun i j hi hj e => piM_inj i hi j hj (Nat.add_left_cancel (hD.1 _ _ _ _ (hMa i hi) (hMa j hj) e)), hSK _ rfl rfl _ (fun q hq => ?_)⟩, hiD, hiM, fun i j hi hj e => ?_⟩
    · obtain ⟨i, hi, rfl⟩ := hq; exact hiD i hi
    · obtain ⟨i, hi, rfl⟩ := hq; exact hiM i hi
    · have h1 := hD.1 _ _ _ _ (hDa i hi) (hMa j hj) e
      have h2 := piD_lt i hi
      omega
  have hm : ∀ c i, c ≠ 63 → c ≠ 71 → muD g1 g2 c i = 0 := fun c i h1 h2 => by unfold muD; rw [if_neg h1, if_neg h2]
  have hn : ∀ c i, ¬ (c = 0 ∧ i = 32) → nuM c i = 0 := fun c i h => by unfold nuM; rw [if_neg h]
  have hl2 : lv_has ls 4 (toL (a, adK, adV, k, D) [vR (b : Int), vA 0, vR (a2 0 : Int), vI 0]) := by
    refine ⟨hl.1, hl.2.1, fun q hq => hl.2.2 q ?_⟩
    have hq : q ∈ [(0, Value.ref b), (1, Value.ref (a 0)), (2, Value.ref (a2 0)), (3, Value.int 0)] := hq
    rw [ha0, hm0] at hq
    simp only [List.mem_cons, List.not_mem_nil, or_false] at hq ⊢
    rcases hq with h | h | h | h
    · exact Or.inr (Or.inr (Or.inr h))
    · exact Or.inr (Or.inr (Or.inl h))
    · exact Or.inr (Or.inl h)
    · exact Or.inl h
  exact law_loop (G := (a, adK, adV, k, D)) (G2 := (a2, adK, adV, k2, D)) hL _ 0 0 (muD g1 g2) nuM (Nat.lt_succ_self _) rfl (by omega) (Cor_0 hm hn rfl) (RULs_0 hm hn) l p e s m below meth c H locs ls hX (wld_of (G := (a, adK, adV, k, D)) (π := fun i => piD.getD i 0) (fun i hi => WD_all i hi) (va_left hP)) (wld_of (G := (a2, adK, adV, k2, D)) (π := fun i => piM.getD i 0) (fun i hi => WM_all i hi) (va_right hP)) hS hl2
