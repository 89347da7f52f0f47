/-! from the entry -/
theorem w_k_law_D_init : Cond.code y_D_init.1 y_D_init.2.1 y_D_init.2.2.1 y_D_init.2.2.2.1 ∈ lw_tbl := in_tab1 _ (List.mem_of_getElem? (i := 24) rfl)
theorem w_n_law_D_init : Cond.initialized y_D_init.1.cls ∈ lw_tbl := in_tab1 _ (List.mem_of_getElem? (i := 1) rfl)
theorem w_m_law_D_init : Cond.instanceMethod y_D_init.1 ∈ lw_tbl := in_tab1 _ (List.mem_of_getElem? (i := 23) rfl)
theorem w_l_law_9 : Cond.methodLink "DoorsOnCogsLaw" 9 y_D_init.1 ∈ lw_tbl := in_tab1 _ (List.mem_of_getElem? (i := 22) rfl)
theorem w_d_law_D_init : (parseMethodDescriptor y_D_init.1.desc).map (fun d => d.parameters.length) = some 0 := by decide +kernel
theorem w_k_law_M_init : Cond.code y_M_init.1 y_M_init.2.1 y_M_init.2.2.1 y_M_init.2.2.2.1 ∈ lw_tbl := in_tab5 _ (List.mem_of_getElem? (i := 132) rfl)
theorem w_n_law_M_init : Cond.initialized y_M_init.1.cls ∈ lw_tbl := in_tab1 _ (List.mem_of_getElem? (i := 12) rfl)
theorem w_m_law_M_init : Cond.instanceMethod y_M_init.1 ∈ lw_tbl := in_tab5 _ (List.mem_of_getElem? (i := 131) rfl)
theorem w_l_law_12 : Cond.methodLink "DoorsOnCogsLaw" 12 y_M_init.1 ∈ lw_tbl := in_tab5 _ (List.mem_of_getElem? (i := 130) rfl)
theorem w_d_law_M_init : (parseMethodDescriptor y_M_init.1.desc).map (fun d => d.parameters.length) = some 0 := by decide +kernel
theorem w_cl_law_7 : Cond.classLink "DoorsOnCogsLaw" 7 RX9 ∈ lw_tbl := in_tab1 _ (List.mem_of_getElem? (i := 20) rfl)
theorem w_in_law_9 : Cond.instantiable RX9 15 ∈ lw_tbl := in_tab1 _ (List.mem_of_getElem? (i := 21) rfl)
theorem w_ii_law_9 : Cond.initialized RX9 ∈ lw_tbl := in_tab1 _ (List.mem_of_getElem? (i := 1) rfl)
theorem w_cl_law_10 : Cond.classLink "DoorsOnCogsLaw" 10 RX10 ∈ lw_tbl := in_tab5 _ (List.mem_of_getElem? (i := 128) rfl)
theorem w_in_law_10 : Cond.instantiable RX10 47 ∈ lw_tbl := in_tab5 _ (List.mem_of_getElem? (i := 129) rfl)
theorem w_ii_law_10 : Cond.initialized RX10 ∈ lw_tbl := in_tab1 _ (List.mem_of_getElem? (i := 12) rfl)
set_option maxHeartbeats 4000000 in
theorem start_law {p : Program} {l : Launch} {e : Env} {s : State} {m : MethodId} {below : List Frame} {meth : Method} {c : Code} {b L q0 m0 : Nat} {xs : Nat → Int32} {D : va_G} {adK adV a a2 : Nat → Nat} {k k2 : Nat → ClassId} {g1 g2 : Nat → Int64} {A : Nat → Prop} {H : Heap} {locs : List Loc} {ls : Array Slot} (hL : L ≤ 3072) (C0 : lw_At p s m meth c b L xs) (hTW : TW s) (hK0 : va_K D classes [] s)
    (hSK : ∀ G : Gd, G.2.1 = adK → G.2.2.1 = adV → ∀ A : Nat → Prop, (∀ q, A q → s.heap.size ≤ q) → SK G A s s.heap) (hKD : va_K D classes (TD_ k) s) (hKM : va_K D classes (TM_ k2) s) (hAe : (fun q : Nat => s.heap.size ≤ q) = A) (ha0 : a 0 = q0) (hm0 : a2 0 = m0) (hP : va_P D classes (WD a k g1 g2 ++ WM a2 k2) H) (hD : va_D A (WD a k g1 g2 ++ WM a2 k2)) (hS : va_S A s.heap H locs) (hl : lv_has ls 4 [(3, .int 0), (2, .ref m0), (1, .ref q0), (0, .ref b)]) :
    W p l e room_1 s m #[Value.ref b] below meth c H locs 600000 7302250 (lw_Z below #[Value.ref b] s) (F0 m 18 ls []) := by
  subst hAe
  have nD : (WD a k g1 g2).length = 89 := rfl
  have hDa : ∀ i, i < YD.1 → (WD a k g1 g2 ++ WM a2 k2)[piD.getD i 0]? = some (a i, wC YD (a, adK, adV, k, D) (muD g1 g2 i) i) := fun i hi => by
    rw [List.getElem?_append_left (by rw [nD]; exact piD_lt i hi)]
    exact WD_all i hi
  have hMa : ∀ i, i < YM.1 → (WD a k g1 g2 ++ WM a2 k2)[89 + piM.getD i 0]? = some (a2 i, wC YM (a2, adK, adV, k2, D) (nuM i) i) := fun i hi => by
    rw [List.getElem?_append_right (by rw [nD]; exact Nat.le_add_right _ _), nD, Nat.add_sub_cancel_left]
    exact WM_all i hi
  have hiD : ∀ i, i < YD.1 → s.heap.size ≤ a i := fun i hi => hD.2 _ _ (hDa i hi)
  have hiM : ∀ i, i < YM.1 → s.heap.size ≤ a2 i := fun i hi => hD.2 _ _ (hMa i hi)
  have hX : LX p s m meth c b L xs (a, adK, adV, k, D) (a2, adK, adV, k2, D) := by
    refine ⟨C0, ⟨hTW, ⟨hK0, KD_all hKD⟩, fun i j hi hj e => piD_inj i hi j hj (hD.1 _ _ _ _ (hDa i hi) (hDa j hj) e), hSK _ rfl rfl _ (fun q hq => ?_)⟩, ⟨hTW, ⟨hK0, KM_all hKM⟩, fun i j hi hj e => piM_inj i hi j hj (Nat.add_left_cancel (hD.1 _ _ _ _ (hMa i hi) (hMa j hj) e)), hSK _ rfl rfl _ (fun q hq => ?_)⟩, hiD, hiM, fun i j hi hj e => ?_⟩
    · obtain ⟨i, hi, rfl⟩ := hq; exact hiD i hi
    · obtain ⟨i, hi, rfl⟩ := hq; exact hiM i hi
    · have h1 := hD.1 _ _ _ _ (hDa i hi) (hMa j hj) e
      have h2 := piD_lt i hi
      omega
  have hm : ∀ c i, c ≠ 63 → c ≠ 71 → muD g1 g2 c i = 0 := fun c i h1 h2 => by unfold muD; rw [if_neg h1, if_neg h2]
  have hn : ∀ c i, ¬ (c = 0 ∧ i = 32) → nuM c i = 0 := fun c i h => by unfold nuM; rw [if_neg h]
  have hl2 : lv_has ls 4 (toL (a, adK, adV, k, D) [vR (b : Int), vA 0, vR (a2 0 : Int), vI 0]) := by
    refine ⟨hl.1, hl.2.1, fun q hq => hl.2.2 q ?_⟩
    have hq : q ∈ [(0, Value.ref b), (1, Value.ref (a 0)), (2, Value.ref (a2 0)), (3, Value.int 0)] := hq
    rw [ha0, hm0] at hq
    simp only [List.mem_cons, List.not_mem_nil, or_false] at hq ⊢
    rcases hq with h | h | h | h
    · exact Or.inr (Or.inr (Or.inr h))
    · exact Or.inr (Or.inr (Or.inl h))
    · exact Or.inr (Or.inl h)
    · exact Or.inl h
  exact law_loop (G := (a, adK, adV, k, D)) (G2 := (a2, adK, adV, k2, D)) hL _ 0 0 (muD g1 g2) nuM (Nat.lt_succ_self _) rfl (by omega) (Cor_0 hm hn rfl) (RULs_0 hm hn) l p e s m below meth c H locs ls hX (wld_of (G := (a, adK, adV, k, D)) (π := fun i => piD.getD i 0) (fun i hi => WD_all i hi) (va_left hP)) (wld_of (G := (a2, adK, adV, k2, D)) (π := fun i => piM.getD i 0) (fun i hi => WM_all i hi) (va_right hP)) hS hl2
set_option maxHeartbeats 8000000 in
set_option maxRecDepth 100000 in
theorem whole_start {p : Program} {e : Env} {s : State} {m : MethodId} {below : List Frame} {meth : Method} {c : Code} (l : Launch) {b L : Nat} {xs : Nat → Int32} (hL : L ≤ 3072) (C0 : lw_At p s m meth c b L xs) : W p l e room_1 s m #[Value.ref b] below meth c s.heap [] 0 0 (lw_Z below #[Value.ref b] s) (entryFrame m ([Value.ref b] : List Value).toArray 4) := by
  obtain ⟨hx, hb, hr, hml, hown, hts, hXs, hbl, hlk, hgv⟩ := id C0
  have hTW := st_TW hts
  have hTA := st_TA hts
  have hAO := st_AO hts
  obtain ⟨D, hK⟩ := st_K hts
  obtain ⟨adK, adV, hSK⟩ := st_SK hts hgv
  have hK0 := hK
  have hS : va_S (fun q : Nat => s.heap.size ≤ q) s.heap s.heap [] := va_S.rf
  have hA : ∀ q : Nat, s.heap.size ≤ q → (fun q : Nat => s.heap.size ≤ q) q := fun _ h => h
  have hP : va_P D classes [] s.heap := fun k q hk => by simp at hk
  have hD : va_D (fun q : Nat => s.heap.size ≤ q) [] := ⟨fun i j p q hp => by simp at hp, fun k q hk => by simp at hk⟩
  generalize hAe : (fun q : Nat => s.heap.size ≤ q) = A at hS hA hD
  have hl := lv_entry ([.ref b]) (n := 4) (Nat.le_of_ble_eq_true rfl)
  rw [lg_entry_eq]
  generalize (lg_sl ([.ref b]) ++ List.replicate (4 - (lg_sl ([.ref b])).length) Slot.unset).toArray = ls at hl ⊢
  have hl : lv_has ls 4 [(0, .ref b)] := hl
  refine va_new (D := D) (ci := 9) (fs := [.null, .int 0, .null, .null, .null, .null, .null, .null, .null, .null, .null, .null, .null, .null, .null]) (C := RX9) (T := TX9) (N := 15) hx hb (TW.lays (args := #[.ref b]) hTW inX9) (fun w h => h) tyX9 tyX9_ok hown (hTW _ w_cl_law_7 rfl _) (hTW _ w_in_law_9 rfl _) (hTW _ w_ii_law_9 rfl _) hK hP hD hS hA rfl (fun j hj => by rcases (show j = 0 ∨ j = 1 ∨ j = 2 ∨ j = 3 ∨ j = 4 ∨ j = 5 ∨ j = 6 ∨ j = 7 ∨ j = 8 ∨ j = 9 ∨ j = 10 ∨ j = 11 ∨ j = 12 ∨ j = 13 ∨ j = 14 by omega) with rfl | rfl | rfl | rfl | rfl | rfl | rfl | rfl | rfl | rfl | rfl | rfl | rfl | rfl | rfl <;> rfl) (Nat.le_of_ble_eq_true rfl) (Nat.le_of_ble_eq_true rfl) d_law_0 (fun q0 H hP hD hS => ?_)
  have hP : va_P D classes [(q0, .inr (9, [.null, .int 0, .null, .null, .null, .null, .null, .null, .null, .null, .null, .null, .null, .null, .null]))] H := hP
  have hD : va_D A [(q0, .inr (9, [.null, .int 0, .null, .null, .null, .null, .null, .null, .null, .null, .null, .null, .null, .null, .null]))] := hD
  refine lv_dup hx hb d_law_3 rfl ?_
  have hPc := hP.sub (ws' := [(q0, .inr (9, [.null, .int 0, .null, .null, .null, .null, .null, .null, .null, .null, .null, .null, .null, .null, .null]))]) [0] rfl
  have hDc := hD.sub (ws' := [(q0, .inr (9, [.null, .int 0, .null, .null, .null, .null, .null, .null, .null, .null, .null, .null, .null, .null, .null]))]) [0] (by decide) rfl
  have hKc := hK.sub (tys' := []) [] rfl
  have hFc := va_free (wc := [(q0, .inr (9, [.null, .int 0, .null, .null, .null, .null, .null, .null, .null, .null, .null, .null, .null, .null, .null]))]) hD hS hA [0] rfl
  refine va_callv (va_runI (bytes := y_D_init.2.1) (maxL := y_D_init.2.2.1) (index := 9) (n := 0) (As := []) (rest := [.ref q0]) (b := q0) (Ts := []) ⟨hx, hb, hml, hown, fun w hw => by cases hw⟩ (c_D_init l D q0 H.size) ⟨⟨rfl, rfl, Nat.le_of_ble_eq_true rfl, Nat.le_of_ble_eq_true rfl, fun w hw a' U hW => by rw [List.mem_singleton] at hw; subst hw; exact TW.warm hW hTW _ w_k_law_D_init rfl _, List.mem_singleton.mpr rfl, hTW _ w_k_law_D_init rfl _, hTW _ w_n_law_D_init rfl _, ⟨by decide, by decide⟩, fun sig h => by have z6 := w_d_law_D_init; rw [h] at z6; exact (Option.some.inj z6).symm, hTW _ w_l_law_9 rfl _⟩, rfl, hTW _ w_m_law_D_init rfl _⟩ ⟨fun a U g mk q => by obtain ⟨q0, q1, qP, qK, qD, qT, qA, qO⟩ := q; exact ⟨q0, q1, qP, va_K.moved (u := U) (U := U.calling g mk a) (Vm.Alike.refl U.vm) qK, qD, TW.warm (U := U.calling g mk a) (State.WarmedH.refl U) qT, TA.warm (U := U.calling g mk a) (State.WarmedH.refl U) qA, va_AO.moved (u := U) (U := U.calling g mk a) (Vm.Alike.refl U.vm) qO⟩, fun U hU hW => ⟨rfl, by rw [hU], by rw [hU]; exact hPc, va_K.moved hW.alike hKc, hDc.weaken (fun _ _ _ _ => trivial), TW.warm hW hTW, TA.warm hW hTA, va_AO.moved hW.alike hAO⟩⟩ rfl rfl hl.1 rfl (lv_room (Nat.le_of_ble_eq_true rfl)) d_law_4 ⟨Nat.le_of_ble_eq_true rfl, Nat.le_of_ble_eq_true rfl⟩) hS (fun q _ h => hFc q h) hFc (fun u t H1 locs ht hvm hw hB hz1 hk1 hS => ?_)
  obtain ⟨q8_z, q14_z, q29_z, q7_33_z, q15_33_z, q23_33_z, q31_33_z, q39_33_z, q47_33_z, q55_33_z, q63_33_z, q40_z, q7_44_z, q15_44_z, q23_44_z, q31_44_z, q39_44_z, q47_44_z, q55_44_z, q63_44_z, q52_z, q60_z, q66_z, q7_74_z, q15_74_z, q23_74_z, q40_74_z, q48_74_z, q31_74_z, q81_z, q10_89_z, q7_15_89_z, q15_15_89_z, q23_15_89_z, q40_15_89_z, q48_15_89_z, q31_15_89_z, q96_z, q8_108_z, q17_108_z, q26_108_z, q35_108_z, q115_z, q8_123_z, q16_123_z, q25_123_z, q130_z, q149_z, q8_161_z, q168_z, q7_180_z, q189_z, q206_z, q7_210_z, q15_210_z, q23_210_z, q31_210_z, q39_210_z, q47_210_z, q55_210_z, q63_210_z, q206_2_z, q7_210_2_z, q15_210_2_z, q23_210_2_z, q31_210_2_z, q39_210_2_z, q47_210_2_z, q55_210_2_z, q63_210_2_z, q206_3_z, q7_210_3_z, q15_210_3_z, q23_210_3_z, q31_210_3_z, q39_210_3_z, q47_210_3_z, q55_210_3_z, q63_210_3_z, q206_4_z, q7_210_4_z, q15_210_4_z, q23_210_4_z, q31_210_4_z, q39_210_4_z, q47_210_4_z, q55_210_4_z, q63_210_4_z, c8_z, c7_33_z, c15_33_z, c23_33_z, c31_33_z, c39_33_z, c47_33_z, c55_33_z, c63_33_z, c7_44_z, c15_44_z, c23_44_z, c31_44_z, c39_44_z, c47_44_z, c55_44_z, c63_44_z, c52_z, c60_z, c7_74_z, c15_74_z, c23_74_z, c31_74_z, c40_74_z, c48_74_z, c7_15_89_z, c15_15_89_z, c23_15_89_z, c31_15_89_z, c40_15_89_z, c48_15_89_z, c8_108_z, c17_108_z, c26_108_z, c35_108_z, c8_123_z, c16_123_z, c25_123_z, c8_161_z, c7_180_z, c189_z, c7_210_z, c15_210_z, c23_210_z, c31_210_z, c39_210_z, c47_210_z, c55_210_z, c63_210_z, c7_210_2_z, c15_210_2_z, c23_210_2_z, c31_210_2_z, c39_210_2_z, c47_210_2_z, c55_210_2_z, c63_210_2_z, c7_210_3_z, c15_210_3_z, c23_210_3_z, c31_210_3_z, c39_210_3_z, c47_210_3_z, c55_210_3_z, c63_210_3_z, c7_210_4_z, c15_210_4_z, c23_210_4_z, c31_210_4_z, c39_210_4_z, c47_210_4_z, c55_210_4_z, c63_210_4_z, g_74_z, g_15_89_z, hg_74_z, hg_15_89_z, hP1, hK1, hD1⟩ := hB
  rw [ht] at hP1
  have hK1 := va_K.moved hvm.symm hK1
  obtain ⟨a, k, ha0, hP1, hKD, hD1⟩ : ∃ (a : Nat → Nat) (k : Nat → ClassId), a 0 = q0 ∧ va_P D classes (WDu a k g_74_z g_15_89_z) H1 ∧ va_K D classes (TD_ k) s ∧ va_D (va_A [(q0, .inr (9, [.null, .int 0, .null, .null, .null, .null, .null, .null, .null, .null, .null, .null, .null, .null, .null]))] H.size) (WDu a k g_74_z g_15_89_z) := ⟨(fun i => [q0, q8_z, q14_z, q29_z, q7_33_z, q15_33_z, q23_33_z, q31_33_z, q39_33_z, q47_33_z, q55_33_z, q63_33_z, q40_z, q7_44_z, q15_44_z, q23_44_z, q31_44_z, q39_44_z, q47_44_z, q55_44_z, q63_44_z, q52_z, q206_z, q7_210_z, q15_210_z, q23_210_z, q31_210_z, q39_210_z, q47_210_z, q55_210_z, q63_210_z, q206_2_z, q7_210_2_z, q15_210_2_z, q23_210_2_z, q31_210_2_z, q39_210_2_z, q47_210_2_z, q55_210_2_z, q63_210_2_z, q206_3_z, q7_210_3_z, q15_210_3_z, q23_210_3_z, q31_210_3_z, q39_210_3_z, q47_210_3_z, q55_210_3_z, q63_210_3_z, q206_4_z, q7_210_4_z, q15_210_4_z, q23_210_4_z, q31_210_4_z, q39_210_4_z, q47_210_4_z, q55_210_4_z, q63_210_4_z, q60_z, q66_z, q7_74_z, q15_74_z, q23_74_z, q31_74_z, q40_74_z, q48_74_z, q81_z, q10_89_z, q7_15_89_z, q15_15_89_z, q23_15_89_z, q31_15_89_z, q40_15_89_z, q48_15_89_z, q96_z, q8_108_z, q17_108_z, q26_108_z, q35_108_z, q115_z, q8_123_z, q16_123_z, q25_123_z, q130_z, q149_z, q8_161_z, q168_z, q7_180_z, q189_z].getD i 0), (fun i => [c8_z, c8_z, c8_z, c8_z, c7_33_z, c15_33_z, c23_33_z, c31_33_z, c39_33_z, c47_33_z, c55_33_z, c63_33_z, c8_z, c7_44_z, c15_44_z, c23_44_z, c31_44_z, c39_44_z, c47_44_z, c55_44_z, c63_44_z, c52_z, c8_z, c7_210_z, c15_210_z, c23_210_z, c31_210_z, c39_210_z, c47_210_z, c55_210_z, c63_210_z, c8_z, c7_210_2_z, c15_210_2_z, c23_210_2_z, c31_210_2_z, c39_210_2_z, c47_210_2_z, c55_210_2_z, c63_210_2_z, c8_z, c7_210_3_z, c15_210_3_z, c23_210_3_z, c31_210_3_z, c39_210_3_z, c47_210_3_z, c55_210_3_z, c63_210_3_z, c8_z, c7_210_4_z, c15_210_4_z, c23_210_4_z, c31_210_4_z, c39_210_4_z, c47_210_4_z, c55_210_4_z, c63_210_4_z, c60_z, c8_z, c7_74_z, c15_74_z, c23_74_z, c31_74_z, c40_74_z, c48_74_z, c8_z, c8_z, c7_15_89_z, c15_15_89_z, c23_15_89_z, c31_15_89_z, c40_15_89_z, c48_15_89_z, c8_z, c8_108_z, c17_108_z, c26_108_z, c35_108_z, c8_z, c8_123_z, c16_123_z, c25_123_z, c8_z, c8_z, c8_161_z, c8_z, c7_180_z, c189_z].getD i c8_z), rfl, hP1, hK1, hD1⟩
  have hP1 := WDu_P hP1
  have hD1 := WDu_D hD1
  obtain ⟨hP, hD⟩ := va_join (wr := []) (w1 := WD a k g_74_z g_15_89_z) hP hD [0] [] rfl rfl (by decide) (by decide) hk1 hFc hP1 hD1
  generalize H1 = H at hP hS ⊢
  have hP : va_P D classes (WD a k g_74_z g_15_89_z) H := hP
  have hD : va_D A (WD a k g_74_z g_15_89_z) := hD
  clear hP1 hD1 hk1 hFc hPc hDc hKc hg_74_z hg_15_89_z
  generalize g_74_z = g1 at hP hD
  generalize g_15_89_z = g2 at hP hD
  refine lv_astore_n (lv' := [(1, .ref q0), (0, .ref b)]) hx hb d_law_7 rfl hl (by decide) rfl (fun ls hl => ?_)
  refine va_new (D := D) (ci := 10) (fs := [.null, .int 0, .int 0, .null, .null, .null, .null, .int 0, .int 0, .int 0, .int 0, .null, .null, .int 0, .int 0, .int 0, .int 0, .int 0, .int 0, .int 0, .null, .int 0, .null, .int 0, .null, .null, .null, .null, .null, .null, .null, .null, .long 0, .null, .null, .null, .int 0, .null, .null, .int 0, .int 0, .int 0, .int 0, .null, .null, .null, .null]) (C := RX10) (T := TX10) (N := 47) hx hb (TW.lays (args := #[.ref b]) hTW inX10) (fun w h => h) tyX10 tyX10_ok hown (hTW _ w_cl_law_10 rfl _) (hTW _ w_in_law_10 rfl _) (hTW _ w_ii_law_10 rfl _) hK hP hD hS hA rfl (fun j hj => by rcases (show j = 0 ∨ j = 1 ∨ j = 2 ∨ j = 3 ∨ j = 4 ∨ j = 5 ∨ j = 6 ∨ j = 7 ∨ j = 8 ∨ j = 9 ∨ j = 10 ∨ j = 11 ∨ j = 12 ∨ j = 13 ∨ j = 14 ∨ j = 15 ∨ j = 16 ∨ j = 17 ∨ j = 18 ∨ j = 19 ∨ j = 20 ∨ j = 21 ∨ j = 22 ∨ j = 23 ∨ j = 24 ∨ j = 25 ∨ j = 26 ∨ j = 27 ∨ j = 28 ∨ j = 29 ∨ j = 30 ∨ j = 31 ∨ j = 32 ∨ j = 33 ∨ j = 34 ∨ j = 35 ∨ j = 36 ∨ j = 37 ∨ j = 38 ∨ j = 39 ∨ j = 40 ∨ j = 41 ∨ j = 42 ∨ j = 43 ∨ j = 44 ∨ j = 45 ∨ j = 46 by omega) with rfl | rfl | rfl | rfl | rfl | rfl | rfl | rfl | rfl | rfl | rfl | rfl | rfl | rfl | rfl | rfl | rfl | rfl | rfl | rfl | rfl | rfl | rfl | rfl | rfl | rfl | rfl | rfl | rfl | rfl | rfl | rfl | rfl | rfl | rfl | rfl | rfl | rfl | rfl | rfl | rfl | rfl | rfl | rfl | rfl | rfl | rfl <;> rfl) (Nat.le_of_ble_eq_true rfl) (Nat.le_of_ble_eq_true rfl) d_law_8 (fun m0 H hP hD hS => ?_)
  refine lv_dup hx hb d_law_11 rfl ?_
  have hPc := hP.sub (ws' := [(m0, .inr (10, [.null, .int 0, .int 0, .null, .null, .null, .null, .int 0, .int 0, .int 0, .int 0, .null, .null, .int 0, .int 0, .int 0, .int 0, .int 0, .int 0, .int 0, .null, .int 0, .null, .int 0, .null, .null, .null, .null, .null, .null, .null, .null, .long 0, .null, .null, .null, .int 0, .null, .null, .int 0, .int 0, .int 0, .int 0, .null, .null, .null, .null]))]) [89] rfl
  have hDc := hD.sub (ws' := [(m0, .inr (10, [.null, .int 0, .int 0, .null, .null, .null, .null, .int 0, .int 0, .int 0, .int 0, .null, .null, .int 0, .int 0, .int 0, .int 0, .int 0, .int 0, .int 0, .null, .int 0, .null, .int 0, .null, .null, .null, .null, .null, .null, .null, .null, .long 0, .null, .null, .null, .int 0, .null, .null, .int 0, .int 0, .int 0, .int 0, .null, .null, .null, .null]))]) [89] (by decide) rfl
  have hKc := hK.sub (tys' := []) [] rfl
  have hFc := va_free (wc := [(m0, .inr (10, [.null, .int 0, .int 0, .null, .null, .null, .null, .int 0, .int 0, .int 0, .int 0, .null, .null, .int 0, .int 0, .int 0, .int 0, .int 0, .int 0, .int 0, .null, .int 0, .null, .int 0, .null, .null, .null, .null, .null, .null, .null, .null, .long 0, .null, .null, .null, .int 0, .null, .null, .int 0, .int 0, .int 0, .int 0, .null, .null, .null, .null]))]) hD hS hA [89] rfl
  refine va_callv (va_runI (bytes := y_M_init.2.1) (maxL := y_M_init.2.2.1) (index := 12) (n := 0) (As := []) (rest := [.ref m0]) (b := m0) (Ts := []) ⟨hx, hb, hml, hown, fun w hw => by cases hw⟩ (c_M_init l D m0 H.size) ⟨⟨rfl, rfl, Nat.le_of_ble_eq_true rfl, Nat.le_of_ble_eq_true rfl, fun w hw a' U hW => by rw [List.mem_singleton] at hw; subst hw; exact TW.warm hW hTW _ w_k_law_M_init rfl _, List.mem_singleton.mpr rfl, hTW _ w_k_law_M_init rfl _, hTW _ w_n_law_M_init rfl _, ⟨by decide, by decide⟩, fun sig h => by have z6 := w_d_law_M_init; rw [h] at z6; exact (Option.some.inj z6).symm, hTW _ w_l_law_12 rfl _⟩, rfl, hTW _ w_m_law_M_init rfl _⟩ ⟨fun a U g mk q => by obtain ⟨q0, q1, qP, qK, qD, qT, qA⟩ := q; exact ⟨q0, q1, qP, va_K.moved (u := U) (U := U.calling g mk a) (Vm.Alike.refl U.vm) qK, qD, TW.warm (U := U.calling g mk a) (State.WarmedH.refl U) qT, TA.warm (U := U.calling g mk a) (State.WarmedH.refl U) qA⟩, fun U hU hW => ⟨rfl, by rw [hU], by rw [hU]; exact hPc, va_K.moved hW.alike hKc, hDc.weaken (fun _ _ _ _ => trivial), TW.warm hW hTW, TA.warm hW hTA⟩⟩ rfl rfl hl.1 rfl (lv_room (Nat.le_of_ble_eq_true rfl)) d_law_12 ⟨Nat.le_of_ble_eq_true rfl, Nat.le_of_ble_eq_true rfl⟩) hS (fun q _ h => hFc q h) hFc (fun u t H1 locs ht hvm hw hB hz1 hk1 hS => ?_)
  obtain ⟨q8_z, q17_z, q25_z, q34_z, q42_z, q50_z, q58_z, q67_z, q75_z, q83_z, q92_z, q100_z, q108_z, q116_z, q124_z, q132_z, q140_z, q154_z, q163_z, q172_z, q181_z, q190_z, q198_z, q207_z, q215_z, q222_z, c8_z, c17_z, c25_z, c34_z, c42_z, c50_z, c58_z, c67_z, c75_z, c83_z, c92_z, c100_z, c108_z, c116_z, c124_z, c132_z, c140_z, c154_z, c163_z, c172_z, c181_z, c190_z, c198_z, c207_z, c215_z, c222_z, hP1, hK1, hD1⟩ := hB
  rw [ht] at hP1
  have hK1 := va_K.moved hvm.symm hK1
  obtain ⟨a2, k2, hm0, hP1, hK2, hD1⟩ : ∃ (a2 : Nat → Nat) (k2 : Nat → ClassId), a2 0 = m0 ∧ va_P D classes (WM a2 k2) H1 ∧ va_K D classes (TM_ k2) s ∧ va_D (va_A [(m0, .inr (10, [.null, .int 0, .int 0, .null, .null, .null, .null, .int 0, .int 0, .int 0, .int 0, .null, .null, .int 0, .int 0, .int 0, .int 0, .int 0, .int 0, .int 0, .null, .int 0, .null, .int 0, .null, .null, .null, .null, .null, .null, .null, .null, .long 0, .null, .null, .null, .int 0, .null, .null, .int 0, .int 0, .int 0, .int 0, .null, .null, .null, .null]))] H.size) (WM a2 k2) := ⟨(fun i => [m0, q8_z, q17_z, q25_z, q34_z, q42_z, q50_z, q58_z, q67_z, q75_z, q83_z, q92_z, q100_z, q108_z, q116_z, q124_z, q132_z, q140_z, q154_z, q163_z, q172_z, q181_z, q190_z, q198_z, q207_z, q215_z, q222_z].getD i 0), (fun i => [c8_z, c8_z, c17_z, c25_z, c34_z, c42_z, c50_z, c58_z, c67_z, c75_z, c83_z, c92_z, c100_z, c108_z, c116_z, c124_z, c132_z, c140_z, c154_z, c163_z, c172_z, c181_z, c190_z, c198_z, c207_z, c215_z, c222_z].getD i c8_z), rfl, hP1, hK1, hD1⟩
  obtain ⟨hP, hD⟩ := va_join (wr := WD a k g1 g2) (w1 := WM a2 k2) hP hD [89] [0, 1, 2, 3, 4, 5, 6, 7, 8, 9, 10, 11, 12, 13, 14, 15, 16, 17, 18, 19, 20, 21, 22, 23, 24, 25, 26, 27, 28, 29, 30, 31, 32, 33, 34, 35, 36, 37, 38, 39, 40, 41, 42, 43, 44, 45, 46, 47, 48, 49, 50, 51, 52, 53, 54, 55, 56, 57, 58, 59, 60, 61, 62, 63, 64, 65, 66, 67, 68, 69, 70, 71, 72, 73, 74, 75, 76, 77, 78, 79, 80, 81, 82, 83, 84, 85, 86, 87, 88] rfl rfl (by decide) (by decide) hk1 hFc hP1 hD1
  generalize H1 = H at hP hS ⊢
  refine lv_astore_n (lv' := [(2, .ref m0), (1, .ref q0), (0, .ref b)]) hx hb d_law_15 rfl hl (by decide) rfl (fun ls hl => ?_)
  refine lv_iconst (v := 0) hx hb d_law_16 rfl ?_
  refine lv_istore_n (lv' := [(3, .int 0), (2, .ref m0), (1, .ref q0), (0, .ref b)]) hx hb d_law_17 rfl hl (by decide) rfl (fun ls hl => ?_)
  refine W.widen (k := 600000) (n := 7302250) (Nat.le_of_ble_eq_true rfl) (Nat.le_of_ble_eq_true rfl) ?_
  exact start_law hL C0 hTW hK0 hSK hKD hK2 hAe ha0 hm0 hP hD hS hl
