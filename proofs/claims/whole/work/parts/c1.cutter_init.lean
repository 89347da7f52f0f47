/-! a cutter is made -/
theorem w_oi_Cu_init : Cond.methodLink "DoorsOnCogs$Cutter" 3 objectInit ∈ lw_tbl := in_tab1 _ (List.mem_of_getElem? (i := 206) rfl)
theorem w_fl_Cu_init_9 : Cond.fieldLink "DoorsOnCogs$Cutter" 9 (TX0 0).1 (TX0 0).2.1 (TX0 0).2.2.1 ∈ lw_tbl := in_tab1 _ (List.mem_of_getElem? (i := 209) rfl)
theorem w_cl_Cu_init_15 : Cond.classLink "DoorsOnCogs$Cutter" 15 RX2 ∈ lw_tbl := in_tab1 _ (List.mem_of_getElem? (i := 207) rfl)
theorem w_in_Cu_init_2 : Cond.instantiable RX2 9 ∈ lw_tbl := in_tab1 _ (List.mem_of_getElem? (i := 152) rfl)
theorem w_ii_Cu_init_2 : Cond.initialized RX2 ∈ lw_tbl := in_tab1 _ (List.mem_of_getElem? (i := 4) rfl)
theorem w_k_Cu_init_Ge_init : Cond.code y_Ge_init.1 y_Ge_init.2.1 y_Ge_init.2.2.1 y_Ge_init.2.2.2.1 ∈ lw_tbl := in_tab1 _ (List.mem_of_getElem? (i := 155) rfl)
theorem w_n_Cu_init_Ge_init : Cond.initialized y_Ge_init.1.cls ∈ lw_tbl := in_tab1 _ (List.mem_of_getElem? (i := 4) rfl)
theorem w_m_Cu_init_Ge_init : Cond.instanceMethod y_Ge_init.1 ∈ lw_tbl := in_tab1 _ (List.mem_of_getElem? (i := 154) rfl)
theorem w_l_Cu_init_17 : Cond.methodLink "DoorsOnCogs$Cutter" 17 y_Ge_init.1 ∈ lw_tbl := in_tab1 _ (List.mem_of_getElem? (i := 208) rfl)
theorem w_d_Cu_init_Ge_init : (parseMethodDescriptor y_Ge_init.1.desc).map (fun d => d.parameters.length) = some 1 := by decide +kernel
theorem w_fl_Cu_init_20 : Cond.fieldLink "DoorsOnCogs$Cutter" 20 (TX0 1).1 (TX0 1).2.1 (TX0 1).2.2.1 ∈ lw_tbl := in_tab1 _ (List.mem_of_getElem? (i := 210) rfl)
theorem d_Cu_init_0 : decode prog_2_method_1_code 0 = .ok (.aload_n 0, 1) := by decide +kernel
theorem d_Cu_init_1 : decode prog_2_method_1_code 1 = .ok (.invokespecial 3, 3) := by decide +kernel
theorem d_Cu_init_4 : decode prog_2_method_1_code 4 = .ok (.aload_n 0, 1) := by decide +kernel
theorem d_Cu_init_5 : decode prog_2_method_1_code 5 = .ok (.aload_n 1, 1) := by decide +kernel
theorem d_Cu_init_6 : decode prog_2_method_1_code 6 = .ok (.putfield 9, 3) := by decide +kernel
theorem d_Cu_init_9 : decode prog_2_method_1_code 9 = .ok (.aload_n 0, 1) := by decide +kernel
theorem d_Cu_init_10 : decode prog_2_method_1_code 10 = .ok (.new 15, 3) := by decide +kernel
theorem d_Cu_init_13 : decode prog_2_method_1_code 13 = .ok (.dup, 1) := by decide +kernel
theorem d_Cu_init_14 : decode prog_2_method_1_code 14 = .ok (.aload_n 1, 1) := by decide +kernel
theorem d_Cu_init_15 : decode prog_2_method_1_code 15 = .ok (.invokespecial 17, 3) := by decide +kernel
theorem d_Cu_init_18 : decode prog_2_method_1_code 18 = .ok (.putfield 20, 3) := by decide +kernel
theorem d_Cu_init_21 : decode prog_2_method_1_code 21 = .ok (.return_, 1) := by decide +kernel
set_option maxHeartbeats 4000000 in
set_option maxRecDepth 100000 in
theorem c_Cu_init (l : Launch) (D : va_G) (h0 a1 sz : Nat) : Met l y_Cu_init.1 [Cond.code y_Cu_init.1 y_Cu_init.2.1 y_Cu_init.2.2.1 y_Cu_init.2.2.2.1] ({ frames := 2, cells := 7, slots := 213, locals := 45 }) (va_Pc [.ref h0, .ref a1] (fun U => U.heap.size = sz ∧ va_P D classes [(h0, .inr (0, [.null, .null, .int 0, .int 0]))] U.heap ∧ va_K D classes [] U ∧ va_D (fun _ => True) [(h0, .inr (0, [.null, .null, .int 0, .int 0]))] ∧ TW U ∧ TA U)) (va_Qv (fun _ : Unit => True) (fun _ t => ∃ (q10 q7_15 q15_15 q23_15 q40_15 q48_15 q31_15 : Nat) (c7_15 c15_15 c23_15 c31_15 c40_15 c48_15 : ClassId) (g_15 : Nat → Int64), (∀ j, j < 12 → g_15 j = 1) ∧ va_P D classes [(h0, .inr (0, [.ref a1, .ref q10, .int 0, .int 0])), (q10, .inr (2, [.ref a1, .ref q7_15, .ref q15_15, .ref q23_15, .ref q31_15, .ref q40_15, .ref q48_15, .int 0, .int 0])), (q7_15, .inl (c7_15, 12, .inl (fun _ => 0))), (q15_15, .inl (c15_15, 12, .inr (.inl (fun _ => 0)))), (q23_15, .inl (c23_15, 12, .inr (.inl (fun _ => 0)))), (q40_15, .inl (c40_15, 144, .inr (.inl (fun _ => 0)))), (q48_15, .inl (c48_15, 12, .inr (.inl (fun _ => 0)))), (q31_15, .inl (c31_15, 12, .inr (.inl g_15)))] t.heap ∧ va_K D classes [(c7_15, .int), (c15_15, .long), (c23_15, .long), (c31_15, .long), (c40_15, .long), (c48_15, .long)] t ∧ va_D (va_A [(h0, .inr (0, [.null, .null, .int 0, .int 0]))] sz) [(h0, .inr (0, [.ref a1, .ref q10, .int 0, .int 0])), (q10, .inr (2, [.ref a1, .ref q7_15, .ref q15_15, .ref q23_15, .ref q31_15, .ref q40_15, .ref q48_15, .int 0, .int 0])), (q7_15, .inl (c7_15, 12, .inl (fun _ => 0))), (q15_15, .inl (c15_15, 12, .inr (.inl (fun _ => 0)))), (q23_15, .inl (c23_15, 12, .inr (.inl (fun _ => 0)))), (q40_15, .inl (c40_15, 144, .inr (.inl (fun _ => 0)))), (q48_15, .inl (c48_15, 12, .inr (.inl (fun _ => 0)))), (q31_15, .inl (c31_15, 12, .inr (.inl g_15)))]) (va_A [(h0, .inr (0, [.null, .null, .int 0, .int 0]))] sz)) 7 213 (va_A [(h0, .inr (0, [.null, .null, .int 0, .int 0]))] sz) := by
  refine Met.ofW (cc := y_Cu_init.2.1) (maxL := 2) (ret := none) (by decide) rfl ?_
  intro p e s m args0 below meth c s₁ B hml hv
  obtain ⟨rfl, hsz, hP, hK, hD0, hTW, hTA⟩ := hv
  have hx := B.exec
  have hb := B.bytes
  have hr := B.returns
  have hown : s.vm.findClass "DoorsOnCogs$Cutter" = some m.cls := findClass_of_methodNamed B.named
  have hin : meth.name = "<init>" := (name_of_methodNamed B.named B.method).1
  subst hsz
  have hD := hD0.self (sz := s.heap.size)
  generalize hAe : va_A [(h0, .inr (0, [.null, .null, .int 0, .int 0]))] s.heap.size = A at hD ⊢
  have hA : ∀ q : Nat, s.heap.size ≤ q → A q := fun q h => by rw [← hAe]; exact Or.inr h
  have hS : va_S A s.heap s.heap [] := va_S.rf
  have hl := lv_entry ([.ref h0, .ref a1]) (n := 2) (Nat.le_of_ble_eq_true rfl)
  rw [lg_entry_eq]
  generalize (lg_sl ([.ref h0, .ref a1]) ++ List.replicate (2 - (lg_sl ([.ref h0, .ref a1])).length) Slot.unset).toArray = ls at hl ⊢
  have hl : lv_has ls 2 [(0, .ref h0), (1, .ref a1)] := hl
  refine lv_aload_n hx hb d_Cu_init_0 rfl (lv_at hl 0 rfl) ?_
  refine W.objInit hx hb hown (hTW _ w_oi_Cu_init rfl _) (hTW _ w_oinst rfl _) (hTW _ w_ocode rfl _) rfl (by rw [hml]; exact hl.1) rfl d_Cu_init_1 (Nat.le_of_ble_eq_true rfl) (Nat.le_of_ble_eq_true rfl) ?_
  refine W.eq (g2 := F0 m 4 ls []) rfl ?_
  refine lv_aload_n hx hb d_Cu_init_4 rfl (lv_at hl 0 rfl) ?_
  refine lv_aload_n hx hb d_Cu_init_5 rfl (lv_at hl 1 rfl) ?_
  refine va_putF (D := D) (ci := 0) (v := .ref a1) (C := RX0) (T := TX0) (N := 4) hx hb (TW.lays (args := #[.ref h0, .ref a1]) hTW inX0) (fun w h => h) tyX0 tyX0_ok nmX0 hown hK hP hD hS 0 rfl rfl 0 (by decide) (hTW _ w_fl_Cu_init_9 rfl _) (fun _ h9 => h9) rfl hin rfl (tyX0_ok 0 (by decide)) rfl rfl (Nat.le_of_ble_eq_true rfl) d_Cu_init_6 (fun H locs hP hD hS => ?_)
  have hP : va_P D classes [(h0, .inr (0, [.ref a1, .null, .int 0, .int 0]))] H := hP
  have hD : va_D A [(h0, .inr (0, [.ref a1, .null, .int 0, .int 0]))] := hD
  refine lv_aload_n hx hb d_Cu_init_9 rfl (lv_at hl 0 rfl) ?_
  refine va_new (D := D) (ci := 2) (fs := [.null, .null, .null, .null, .null, .null, .null, .int 0, .int 0]) (C := RX2) (T := TX2) (N := 9) hx hb (TW.lays (args := #[.ref h0, .ref a1]) hTW inX2) (fun w h => h) tyX2 tyX2_ok hown (hTW _ w_cl_Cu_init_15 rfl _) (hTW _ w_in_Cu_init_2 rfl _) (hTW _ w_ii_Cu_init_2 rfl _) hK hP hD hS hA rfl (fun j hj => by rcases (show j = 0 ∨ j = 1 ∨ j = 2 ∨ j = 3 ∨ j = 4 ∨ j = 5 ∨ j = 6 ∨ j = 7 ∨ j = 8 by omega) with rfl | rfl | rfl | rfl | rfl | rfl | rfl | rfl | rfl <;> rfl) (Nat.le_of_ble_eq_true rfl) (Nat.le_of_ble_eq_true rfl) d_Cu_init_10 (fun q10 H hP hD hS => ?_)
  have hP : va_P D classes [(h0, .inr (0, [.ref a1, .null, .int 0, .int 0])), (q10, .inr (2, [.null, .null, .null, .null, .null, .null, .null, .int 0, .int 0]))] H := hP
  have hD : va_D A [(h0, .inr (0, [.ref a1, .null, .int 0, .int 0])), (q10, .inr (2, [.null, .null, .null, .null, .null, .null, .null, .int 0, .int 0]))] := hD
  refine lv_dup hx hb d_Cu_init_13 rfl ?_
  refine lv_aload_n hx hb d_Cu_init_14 rfl (lv_at hl 1 rfl) ?_
  have hPc := hP.sub (ws' := [(q10, .inr (2, [.null, .null, .null, .null, .null, .null, .null, .int 0, .int 0]))]) [1] rfl
  have hDc := hD.sub (ws' := [(q10, .inr (2, [.null, .null, .null, .null, .null, .null, .null, .int 0, .int 0]))]) [1] (by decide) rfl
  have hKc := hK.sub (tys' := []) [] rfl
  have hFc := va_free (wc := [(q10, .inr (2, [.null, .null, .null, .null, .null, .null, .null, .int 0, .int 0]))]) hD hS hA [1] rfl
  refine va_callv (va_runI (bytes := y_Ge_init.2.1) (maxL := y_Ge_init.2.2.1) (index := 17) (n := 1) (As := [.ref a1]) (rest := [.ref q10, .ref h0]) (b := q10) (Ts := []) ⟨hx, hb, hml, hown, fun w hw => by cases hw⟩ (c_Ge_init l D q10 a1 H.size) ⟨⟨rfl, rfl, Nat.le_of_ble_eq_true rfl, Nat.le_of_ble_eq_true rfl, fun w hw a' U hW => by rw [List.mem_singleton] at hw; subst hw; exact TW.warm hW hTW _ w_k_Cu_init_Ge_init rfl _, List.mem_singleton.mpr rfl, hTW _ w_k_Cu_init_Ge_init rfl _, hTW _ w_n_Cu_init_Ge_init rfl _, ⟨by decide, by decide⟩, fun sig h => by have z6 := w_d_Cu_init_Ge_init; rw [h] at z6; exact (Option.some.inj z6).symm, hTW _ w_l_Cu_init_17 rfl _⟩, rfl, hTW _ w_m_Cu_init_Ge_init rfl _⟩ ⟨fun a U g mk q => by obtain ⟨q0, q1, qP, qK, qD, qT, qA⟩ := q; exact ⟨q0, q1, qP, va_K.moved (u := U) (U := U.calling g mk a) (Vm.Alike.refl U.vm) qK, qD, TW.warm (U := U.calling g mk a) (State.WarmedH.refl U) qT, TA.warm (U := U.calling g mk a) (State.WarmedH.refl U) qA⟩, fun U hU hW => ⟨rfl, by rw [hU], by rw [hU]; exact hPc, va_K.moved hW.alike hKc, hDc.weaken (fun _ _ _ _ => trivial), TW.warm hW hTW, TA.warm hW hTA⟩⟩ rfl rfl hl.1 rfl (lv_room (Nat.le_of_ble_eq_true rfl)) d_Cu_init_15 ⟨Nat.le_of_ble_eq_true rfl, Nat.le_of_ble_eq_true rfl⟩) hS (fun q _ h => hFc q h) hFc (fun u t H1 locs ht hvm hw hB hz1 hk1 hS => ?_)
  obtain ⟨q7_15, q15_15, q23_15, q40_15, q48_15, q31_15, c7_15, c15_15, c23_15, c31_15, c40_15, c48_15, g_15, hg_15, hP1, hK1, hD1⟩ := hB
  rw [ht] at hP1
  have hK1 := va_K.moved hvm.symm hK1
  obtain ⟨hP, hD⟩ := va_join (wr := [(h0, .inr (0, [.ref a1, .null, .int 0, .int 0]))]) (w1 := [(q10, .inr (2, [.ref a1, .ref q7_15, .ref q15_15, .ref q23_15, .ref q31_15, .ref q40_15, .ref q48_15, .int 0, .int 0])), (q7_15, .inl (c7_15, 12, .inl (fun _ => 0))), (q15_15, .inl (c15_15, 12, .inr (.inl (fun _ => 0)))), (q23_15, .inl (c23_15, 12, .inr (.inl (fun _ => 0)))), (q40_15, .inl (c40_15, 144, .inr (.inl (fun _ => 0)))), (q48_15, .inl (c48_15, 12, .inr (.inl (fun _ => 0)))), (q31_15, .inl (c31_15, 12, .inr (.inl g_15)))]) hP hD [1] [0] rfl rfl (by decide) (by decide) hk1 hFc hP1 hD1
  have hK := hK.app hK1
  generalize H1 = H at hP hS ⊢
  have hP : va_P D classes [(h0, .inr (0, [.ref a1, .null, .int 0, .int 0])), (q10, .inr (2, [.ref a1, .ref q7_15, .ref q15_15, .ref q23_15, .ref q31_15, .ref q40_15, .ref q48_15, .int 0, .int 0])), (q7_15, .inl (c7_15, 12, .inl (fun _ => 0))), (q15_15, .inl (c15_15, 12, .inr (.inl (fun _ => 0)))), (q23_15, .inl (c23_15, 12, .inr (.inl (fun _ => 0)))), (q40_15, .inl (c40_15, 144, .inr (.inl (fun _ => 0)))), (q48_15, .inl (c48_15, 12, .inr (.inl (fun _ => 0)))), (q31_15, .inl (c31_15, 12, .inr (.inl g_15)))] H := hP
  have hD : va_D A [(h0, .inr (0, [.ref a1, .null, .int 0, .int 0])), (q10, .inr (2, [.ref a1, .ref q7_15, .ref q15_15, .ref q23_15, .ref q31_15, .ref q40_15, .ref q48_15, .int 0, .int 0])), (q7_15, .inl (c7_15, 12, .inl (fun _ => 0))), (q15_15, .inl (c15_15, 12, .inr (.inl (fun _ => 0)))), (q23_15, .inl (c23_15, 12, .inr (.inl (fun _ => 0)))), (q40_15, .inl (c40_15, 144, .inr (.inl (fun _ => 0)))), (q48_15, .inl (c48_15, 12, .inr (.inl (fun _ => 0)))), (q31_15, .inl (c31_15, 12, .inr (.inl g_15)))] := hD
  have hK : va_K D classes [(c7_15, .int), (c15_15, .long), (c23_15, .long), (c31_15, .long), (c40_15, .long), (c48_15, .long)] s := hK
  refine va_putF (D := D) (ci := 0) (v := .ref q10) (C := RX0) (T := TX0) (N := 4) hx hb (TW.lays (args := #[.ref h0, .ref a1]) hTW inX0) (fun w h => h) tyX0 tyX0_ok nmX0 hown hK hP hD hS 0 rfl rfl 1 (by decide) (hTW _ w_fl_Cu_init_20 rfl _) (fun _ h9 => h9) rfl hin rfl (tyX0_ok 1 (by decide)) rfl rfl (Nat.le_of_ble_eq_true rfl) d_Cu_init_18 (fun H locs hP hD hS => ?_)
  have hP : va_P D classes [(h0, .inr (0, [.ref a1, .ref q10, .int 0, .int 0])), (q10, .inr (2, [.ref a1, .ref q7_15, .ref q15_15, .ref q23_15, .ref q31_15, .ref q40_15, .ref q48_15, .int 0, .int 0])), (q7_15, .inl (c7_15, 12, .inl (fun _ => 0))), (q15_15, .inl (c15_15, 12, .inr (.inl (fun _ => 0)))), (q23_15, .inl (c23_15, 12, .inr (.inl (fun _ => 0)))), (q40_15, .inl (c40_15, 144, .inr (.inl (fun _ => 0)))), (q48_15, .inl (c48_15, 12, .inr (.inl (fun _ => 0)))), (q31_15, .inl (c31_15, 12, .inr (.inl g_15)))] H := hP
  have hD : va_D A [(h0, .inr (0, [.ref a1, .ref q10, .int 0, .int 0])), (q10, .inr (2, [.ref a1, .ref q7_15, .ref q15_15, .ref q23_15, .ref q31_15, .ref q40_15, .ref q48_15, .int 0, .int 0])), (q7_15, .inl (c7_15, 12, .inl (fun _ => 0))), (q15_15, .inl (c15_15, 12, .inr (.inl (fun _ => 0)))), (q23_15, .inl (c23_15, 12, .inr (.inl (fun _ => 0)))), (q40_15, .inl (c40_15, 144, .inr (.inl (fun _ => 0)))), (q48_15, .inl (c48_15, 12, .inr (.inl (fun _ => 0)))), (q31_15, .inl (c31_15, 12, .inr (.inl g_15)))] := hD
  exact W.vret hx hb hr (fun t ht hW => ⟨⟨(), rfl, trivial, q10, q7_15, q15_15, q23_15, q40_15, q48_15, q31_15, c7_15, c15_15, c23_15, c31_15, c40_15, c48_15, g_15, hg_15, by rw [ht]; exact hP, va_K.moved hW.alike hK, hD⟩, hS.F ht⟩) hS.2.2 d_Cu_init_21
