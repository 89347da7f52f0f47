/-! a scene is made -/
/-- the classes of rows can be had -/
def TA (s : State) : Prop := ∀ ty, Cond.arrayClass ty ∈ lw_tbl → ∀ a, (Cond.arrayClass ty).before a s = true
theorem TA.warm {s U : State} (hW : s.WarmedH U.vm) (h : TA s) : TA U := fun ty hm a => word_at hW (Or.inr ⟨ty, rfl⟩) (h ty hm #[])
theorem w_oinst : Cond.instanceMethod objectInit ∈ lw_tbl := in_tab1 _ (List.mem_of_getElem? (i := 26) rfl)
theorem w_ocode : Cond.code objectInit ⟨#[0xb1]⟩ 1 none ∈ lw_tbl := in_tab1 _ (List.mem_of_getElem? (i := 27) rfl)
theorem w_arr_int : Cond.arrayClass .int ∈ lw_tbl := in_tab1 _ (List.mem_of_getElem? (i := 51) rfl)
theorem w_arr_long : Cond.arrayClass .long ∈ lw_tbl := in_tab1 _ (List.mem_of_getElem? (i := 149) rfl)
theorem w_arr_boolean : Cond.arrayClass .boolean ∈ lw_tbl := in_tab1 _ (List.mem_of_getElem? (i := 200) rfl)
theorem w_arr_byte : Cond.arrayClass .byte ∈ lw_tbl := in_tab3 _ (List.mem_of_getElem? (i := 168) rfl)
theorem w_oi_Sc_init : Cond.methodLink "DoorsOnCogs$Scene" 3 objectInit ∈ lw_tbl := in_tab1 _ (List.mem_of_getElem? (i := 57) rfl)
theorem w_fl_Sc_init_9 : Cond.fieldLink "DoorsOnCogs$Scene" 9 (TX6 1).1 (TX6 1).2.1 (TX6 1).2.2.1 ∈ lw_tbl := in_tab1 _ (List.mem_of_getElem? (i := 64) rfl)
theorem w_fl_Sc_init_15 : Cond.fieldLink "DoorsOnCogs$Scene" 15 (TX6 2).1 (TX6 2).2.1 (TX6 2).2.2.1 ∈ lw_tbl := in_tab1 _ (List.mem_of_getElem? (i := 68) rfl)
theorem w_fl_Sc_init_18 : Cond.fieldLink "DoorsOnCogs$Scene" 18 (TX6 6).1 (TX6 6).2.1 (TX6 6).2.2.1 ∈ lw_tbl := in_tab1 _ (List.mem_of_getElem? (i := 85) rfl)
theorem w_fl_Sc_init_21 : Cond.fieldLink "DoorsOnCogs$Scene" 21 (TX6 7).1 (TX6 7).2.1 (TX6 7).2.2.1 ∈ lw_tbl := in_tab1 _ (List.mem_of_getElem? (i := 88) rfl)
theorem w_fl_Sc_init_24 : Cond.fieldLink "DoorsOnCogs$Scene" 24 (TX6 8).1 (TX6 8).2.1 (TX6 8).2.2.1 ∈ lw_tbl := in_tab1 _ (List.mem_of_getElem? (i := 91) rfl)
theorem w_fl_Sc_init_27 : Cond.fieldLink "DoorsOnCogs$Scene" 27 (TX6 9).1 (TX6 9).2.1 (TX6 9).2.2.1 ∈ lw_tbl := in_tab1 _ (List.mem_of_getElem? (i := 94) rfl)
theorem w_fl_Sc_init_31 : Cond.fieldLink "DoorsOnCogs$Scene" 31 (TX6 13).1 (TX6 13).2.1 (TX6 13).2.2.1 ∈ lw_tbl := in_tab1 _ (List.mem_of_getElem? (i := 106) rfl)
theorem w_fl_Sc_init_34 : Cond.fieldLink "DoorsOnCogs$Scene" 34 (TX6 15).1 (TX6 15).2.1 (TX6 15).2.2.1 ∈ lw_tbl := in_tab1 _ (List.mem_of_getElem? (i := 110) rfl)
theorem d_Sc_init_0 : decode prog_8_method_1_code 0 = .ok (.aload_n 0, 1) := by decide +kernel
theorem d_Sc_init_1 : decode prog_8_method_1_code 1 = .ok (.invokespecial 3, 3) := by decide +kernel
theorem d_Sc_init_4 : decode prog_8_method_1_code 4 = .ok (.aload_n 0, 1) := by decide +kernel
theorem d_Sc_init_5 : decode prog_8_method_1_code 5 = .ok (.bipush 12, 2) := by decide +kernel
theorem d_Sc_init_7 : decode prog_8_method_1_code 7 = .ok (.newarray .int, 2) := by decide +kernel
theorem d_Sc_init_9 : decode prog_8_method_1_code 9 = .ok (.putfield 9, 3) := by decide +kernel
theorem d_Sc_init_12 : decode prog_8_method_1_code 12 = .ok (.aload_n 0, 1) := by decide +kernel
theorem d_Sc_init_13 : decode prog_8_method_1_code 13 = .ok (.bipush 12, 2) := by decide +kernel
theorem d_Sc_init_15 : decode prog_8_method_1_code 15 = .ok (.newarray .int, 2) := by decide +kernel
theorem d_Sc_init_17 : decode prog_8_method_1_code 17 = .ok (.putfield 15, 3) := by decide +kernel
theorem d_Sc_init_20 : decode prog_8_method_1_code 20 = .ok (.aload_n 0, 1) := by decide +kernel
theorem d_Sc_init_21 : decode prog_8_method_1_code 21 = .ok (.bipush 16, 2) := by decide +kernel
theorem d_Sc_init_23 : decode prog_8_method_1_code 23 = .ok (.newarray .int, 2) := by decide +kernel
theorem d_Sc_init_25 : decode prog_8_method_1_code 25 = .ok (.putfield 18, 3) := by decide +kernel
theorem d_Sc_init_28 : decode prog_8_method_1_code 28 = .ok (.aload_n 0, 1) := by decide +kernel
theorem d_Sc_init_29 : decode prog_8_method_1_code 29 = .ok (.bipush 16, 2) := by decide +kernel
theorem d_Sc_init_31 : decode prog_8_method_1_code 31 = .ok (.newarray .int, 2) := by decide +kernel
theorem d_Sc_init_33 : decode prog_8_method_1_code 33 = .ok (.putfield 21, 3) := by decide +kernel
theorem d_Sc_init_36 : decode prog_8_method_1_code 36 = .ok (.aload_n 0, 1) := by decide +kernel
theorem d_Sc_init_37 : decode prog_8_method_1_code 37 = .ok (.bipush 16, 2) := by decide +kernel
theorem d_Sc_init_39 : decode prog_8_method_1_code 39 = .ok (.newarray .int, 2) := by decide +kernel
theorem d_Sc_init_41 : decode prog_8_method_1_code 41 = .ok (.putfield 24, 3) := by decide +kernel
theorem d_Sc_init_44 : decode prog_8_method_1_code 44 = .ok (.aload_n 0, 1) := by decide +kernel
theorem d_Sc_init_45 : decode prog_8_method_1_code 45 = .ok (.bipush 12, 2) := by decide +kernel
theorem d_Sc_init_47 : decode prog_8_method_1_code 47 = .ok (.newarray .long, 2) := by decide +kernel
theorem d_Sc_init_49 : decode prog_8_method_1_code 49 = .ok (.putfield 27, 3) := by decide +kernel
theorem d_Sc_init_52 : decode prog_8_method_1_code 52 = .ok (.aload_n 0, 1) := by decide +kernel
theorem d_Sc_init_53 : decode prog_8_method_1_code 53 = .ok (.bipush 12, 2) := by decide +kernel
theorem d_Sc_init_55 : decode prog_8_method_1_code 55 = .ok (.newarray .int, 2) := by decide +kernel
theorem d_Sc_init_57 : decode prog_8_method_1_code 57 = .ok (.putfield 31, 3) := by decide +kernel
theorem d_Sc_init_60 : decode prog_8_method_1_code 60 = .ok (.aload_n 0, 1) := by decide +kernel
theorem d_Sc_init_61 : decode prog_8_method_1_code 61 = .ok (.bipush 40, 2) := by decide +kernel
theorem d_Sc_init_63 : decode prog_8_method_1_code 63 = .ok (.newarray .int, 2) := by decide +kernel
theorem d_Sc_init_65 : decode prog_8_method_1_code 65 = .ok (.putfield 34, 3) := by decide +kernel
theorem d_Sc_init_68 : decode prog_8_method_1_code 68 = .ok (.return_, 1) := by decide +kernel
set_option maxHeartbeats 4000000 in
set_option maxRecDepth 100000 in
theorem c_Sc_init (l : Launch) (D : va_G) (h0  sz : Nat) : Met l y_Sc_init.1 [Cond.code y_Sc_init.1 y_Sc_init.2.1 y_Sc_init.2.2.1 y_Sc_init.2.2.2.1] ({ frames := 1, cells := 8, slots := 136, locals := 20 }) (va_Pc [.ref h0] (fun U => U.heap.size = sz ∧ va_P D classes [(h0, .inr (6, [.int 0, .null, .null, .int 0, .int 0, .int 0, .null, .null, .null, .null, .int 0, .int 0, .int 0, .null, .int 0, .null, .int 0]))] U.heap ∧ va_K D classes [] U ∧ va_D (fun _ => True) [(h0, .inr (6, [.int 0, .null, .null, .int 0, .int 0, .int 0, .null, .null, .null, .null, .int 0, .int 0, .int 0, .null, .int 0, .null, .int 0]))] ∧ TW U ∧ TA U)) (va_Qv (fun _ : Unit => True) (fun _ t => ∃ (q7 q15 q23 q31 q39 q47 q55 q63 : Nat) (c7 c15 c23 c31 c39 c47 c55 c63 : ClassId), va_P D classes [(h0, .inr (6, [.int 0, .ref q7, .ref q15, .int 0, .int 0, .int 0, .ref q23, .ref q31, .ref q39, .ref q47, .int 0, .int 0, .int 0, .ref q55, .int 0, .ref q63, .int 0])), (q7, .inl (c7, 12, .inl (fun _ => 0))), (q15, .inl (c15, 12, .inl (fun _ => 0))), (q23, .inl (c23, 16, .inl (fun _ => 0))), (q31, .inl (c31, 16, .inl (fun _ => 0))), (q39, .inl (c39, 16, .inl (fun _ => 0))), (q47, .inl (c47, 12, .inr (.inl (fun _ => 0)))), (q55, .inl (c55, 12, .inl (fun _ => 0))), (q63, .inl (c63, 40, .inl (fun _ => 0)))] t.heap ∧ va_K D classes [(c7, .int), (c15, .int), (c23, .int), (c31, .int), (c39, .int), (c47, .long), (c55, .int), (c63, .int)] t ∧ va_D (va_A [(h0, .inr (6, [.int 0, .null, .null, .int 0, .int 0, .int 0, .null, .null, .null, .null, .int 0, .int 0, .int 0, .null, .int 0, .null, .int 0]))] sz) [(h0, .inr (6, [.int 0, .ref q7, .ref q15, .int 0, .int 0, .int 0, .ref q23, .ref q31, .ref q39, .ref q47, .int 0, .int 0, .int 0, .ref q55, .int 0, .ref q63, .int 0])), (q7, .inl (c7, 12, .inl (fun _ => 0))), (q15, .inl (c15, 12, .inl (fun _ => 0))), (q23, .inl (c23, 16, .inl (fun _ => 0))), (q31, .inl (c31, 16, .inl (fun _ => 0))), (q39, .inl (c39, 16, .inl (fun _ => 0))), (q47, .inl (c47, 12, .inr (.inl (fun _ => 0)))), (q55, .inl (c55, 12, .inl (fun _ => 0))), (q63, .inl (c63, 40, .inl (fun _ => 0)))]) (va_A [(h0, .inr (6, [.int 0, .null, .null, .int 0, .int 0, .int 0, .null, .null, .null, .null, .int 0, .int 0, .int 0, .null, .int 0, .null, .int 0]))] sz)) 8 136 (va_A [(h0, .inr (6, [.int 0, .null, .null, .int 0, .int 0, .int 0, .null, .null, .null, .null, .int 0, .int 0, .int 0, .null, .int 0, .null, .int 0]))] sz) := by
  refine Met.ofW (cc := y_Sc_init.2.1) (maxL := 1) (ret := none) (by decide) rfl ?_
  intro p e s m args0 below meth c s₁ B hml hv
  obtain ⟨rfl, hsz, hP, hK, hD0, hTW, hTA⟩ := hv
  have hx := B.exec
  have hb := B.bytes
  have hr := B.returns
  have hown : s.vm.findClass "DoorsOnCogs$Scene" = some m.cls := findClass_of_methodNamed B.named
  have hin : meth.name = "<init>" := (name_of_methodNamed B.named B.method).1
  subst hsz
  have hD := hD0.self (sz := s.heap.size)
  generalize hAe : va_A [(h0, .inr (6, [.int 0, .null, .null, .int 0, .int 0, .int 0, .null, .null, .null, .null, .int 0, .int 0, .int 0, .null, .int 0, .null, .int 0]))] s.heap.size = A at hD ⊢
  have hA : ∀ q : Nat, s.heap.size ≤ q → A q := fun q h => by rw [← hAe]; exact Or.inr h
  have hS : va_S A s.heap s.heap [] := va_S.rf
  have hl := lv_entry ([.ref h0]) (n := 1) (Nat.le_of_ble_eq_true rfl)
  rw [lg_entry_eq]
  generalize (lg_sl ([.ref h0]) ++ List.replicate (1 - (lg_sl ([.ref h0])).length) Slot.unset).toArray = ls at hl ⊢
  have hl : lv_has ls 1 [(0, .ref h0)] := hl
  refine lv_aload_n hx hb d_Sc_init_0 rfl (lv_at hl 0 rfl) ?_
  refine W.objInit hx hb hown (hTW _ w_oi_Sc_init rfl _) (hTW _ w_oinst rfl _) (hTW _ w_ocode rfl _) rfl (by rw [hml]; exact hl.1) rfl d_Sc_init_1 (Nat.le_of_ble_eq_true rfl) (Nat.le_of_ble_eq_true rfl) ?_
  refine W.eq (g2 := F0 m 4 ls []) rfl ?_
  refine lv_aload_n hx hb d_Sc_init_4 rfl (lv_at hl 0 rfl) ?_
  refine lv_bipush (v := 12) hx hb d_Sc_init_5 (by decide +kernel) ?_
  refine va_newa (atype := .int) (ty := .int) (N' := 12) (a0 := (12, .inl (fun _ => 0))) hx hb (hTA _ w_arr_int _) rfl hK hP hD hS hA (fun _ => rfl) (by decide +kernel) (by decide +kernel) (by decide) (Nat.le_of_ble_eq_true rfl) (Nat.le_of_ble_eq_true rfl) d_Sc_init_7 (fun q7 c7 H hK hP hD hS => ?_)
  have hP : va_P D classes [(h0, .inr (6, [.int 0, .null, .null, .int 0, .int 0, .int 0, .null, .null, .null, .null, .int 0, .int 0, .int 0, .null, .int 0, .null, .int 0])), (q7, .inl (c7, 12, .inl (fun _ => 0)))] H := hP
  have hD : va_D A [(h0, .inr (6, [.int 0, .null, .null, .int 0, .int 0, .int 0, .null, .null, .null, .null, .int 0, .int 0, .int 0, .null, .int 0, .null, .int 0])), (q7, .inl (c7, 12, .inl (fun _ => 0)))] := hD
  have hK : va_K D classes [(c7, .int)] s := hK
  refine va_putF (D := D) (ci := 6) (v := .ref q7) (C := RX6) (T := TX6) (N := 17) hx hb (TW.lays (args := #[.ref h0]) hTW inX6) (fun w h => h) tyX6 tyX6_ok nmX6 hown hK hP hD hS 0 rfl rfl 1 (by decide) (hTW _ w_fl_Sc_init_9 rfl _) (fun _ h9 => h9) rfl hin rfl (tyX6_ok 1 (by decide)) rfl rfl (Nat.le_of_ble_eq_true rfl) d_Sc_init_9 (fun H locs hP hD hS => ?_)
  have hP : va_P D classes [(h0, .inr (6, [.int 0, .ref q7, .null, .int 0, .int 0, .int 0, .null, .null, .null, .null, .int 0, .int 0, .int 0, .null, .int 0, .null, .int 0])), (q7, .inl (c7, 12, .inl (fun _ => 0)))] H := hP
  have hD : va_D A [(h0, .inr (6, [.int 0, .ref q7, .null, .int 0, .int 0, .int 0, .null, .null, .null, .null, .int 0, .int 0, .int 0, .null, .int 0, .null, .int 0])), (q7, .inl (c7, 12, .inl (fun _ => 0)))] := hD
  refine lv_aload_n hx hb d_Sc_init_12 rfl (lv_at hl 0 rfl) ?_
  refine lv_bipush (v := 12) hx hb d_Sc_init_13 (by decide +kernel) ?_
  refine va_newa (atype := .int) (ty := .int) (N' := 12) (a0 := (12, .inl (fun _ => 0))) hx hb (hTA _ w_arr_int _) rfl hK hP hD hS hA (fun _ => rfl) (by decide +kernel) (by decide +kernel) (by decide) (Nat.le_of_ble_eq_true rfl) (Nat.le_of_ble_eq_true rfl) d_Sc_init_15 (fun q15 c15 H hK hP hD hS => ?_)
  have hP : va_P D classes [(h0, .inr (6, [.int 0, .ref q7, .null, .int 0, .int 0, .int 0, .null, .null, .null, .null, .int 0, .int 0, .int 0, .null, .int 0, .null, .int 0])), (q7, .inl (c7, 12, .inl (fun _ => 0))), (q15, .inl (c15, 12, .inl (fun _ => 0)))] H := hP
  have hD : va_D A [(h0, .inr (6, [.int 0, .ref q7, .null, .int 0, .int 0, .int 0, .null, .null, .null, .null, .int 0, .int 0, .int 0, .null, .int 0, .null, .int 0])), (q7, .inl (c7, 12, .inl (fun _ => 0))), (q15, .inl (c15, 12, .inl (fun _ => 0)))] := hD
  have hK : va_K D classes [(c7, .int), (c15, .int)] s := hK
  refine va_putF (D := D) (ci := 6) (v := .ref q15) (C := RX6) (T := TX6) (N := 17) hx hb (TW.lays (args := #[.ref h0]) hTW inX6) (fun w h => h) tyX6 tyX6_ok nmX6 hown hK hP hD hS 0 rfl rfl 2 (by decide) (hTW _ w_fl_Sc_init_15 rfl _) (fun _ h9 => h9) rfl hin rfl (tyX6_ok 2 (by decide)) rfl rfl (Nat.le_of_ble_eq_true rfl) d_Sc_init_17 (fun H locs hP hD hS => ?_)
  have hP : va_P D classes [(h0, .inr (6, [.int 0, .ref q7, .ref q15, .int 0, .int 0, .int 0, .null, .null, .null, .null, .int 0, .int 0, .int 0, .null, .int 0, .null, .int 0])), (q7, .inl (c7, 12, .inl (fun _ => 0))), (q15, .inl (c15, 12, .inl (fun _ => 0)))] H := hP
  have hD : va_D A [(h0, .inr (6, [.int 0, .ref q7, .ref q15, .int 0, .int 0, .int 0, .null, .null, .null, .null, .int 0, .int 0, .int 0, .null, .int 0, .null, .int 0])), (q7, .inl (c7, 12, .inl (fun _ => 0))), (q15, .inl (c15, 12, .inl (fun _ => 0)))] := hD
  refine lv_aload_n hx hb d_Sc_init_20 rfl (lv_at hl 0 rfl) ?_
  refine lv_bipush (v := 16) hx hb d_Sc_init_21 (by decide +kernel) ?_
  refine va_newa (atype := .int) (ty := .int) (N' := 16) (a0 := (16, .inl (fun _ => 0))) hx hb (hTA _ w_arr_int _) rfl hK hP hD hS hA (fun _ => rfl) (by decide +kernel) (by decide +kernel) (by decide) (Nat.le_of_ble_eq_true rfl) (Nat.le_of_ble_eq_true rfl) d_Sc_init_23 (fun q23 c23 H hK hP hD hS => ?_)
  have hP : va_P D classes [(h0, .inr (6, [.int 0, .ref q7, .ref q15, .int 0, .int 0, .int 0, .null, .null, .null, .null, .int 0, .int 0, .int 0, .null, .int 0, .null, .int 0])), (q7, .inl (c7, 12, .inl (fun _ => 0))), (q15, .inl (c15, 12, .inl (fun _ => 0))), (q23, .inl (c23, 16, .inl (fun _ => 0)))] H := hP
  have hD : va_D A [(h0, .inr (6, [.int 0, .ref q7, .ref q15, .int 0, .int 0, .int 0, .null, .null, .null, .null, .int 0, .int 0, .int 0, .null, .int 0, .null, .int 0])), (q7, .inl (c7, 12, .inl (fun _ => 0))), (q15, .inl (c15, 12, .inl (fun _ => 0))), (q23, .inl (c23, 16, .inl (fun _ => 0)))] := hD
  have hK : va_K D classes [(c7, .int), (c15, .int), (c23, .int)] s := hK
  refine va_putF (D := D) (ci := 6) (v := .ref q23) (C := RX6) (T := TX6) (N := 17) hx hb (TW.lays (args := #[.ref h0]) hTW inX6) (fun w h => h) tyX6 tyX6_ok nmX6 hown hK hP hD hS 0 rfl rfl 6 (by decide) (hTW _ w_fl_Sc_init_18 rfl _) (fun _ h9 => h9) rfl hin rfl (tyX6_ok 6 (by decide)) rfl rfl (Nat.le_of_ble_eq_true rfl) d_Sc_init_25 (fun H locs hP hD hS => ?_)
  have hP : va_P D classes [(h0, .inr (6, [.int 0, .ref q7, .ref q15, .int 0, .int 0, .int 0, .ref q23, .null, .null, .null, .int 0, .int 0, .int 0, .null, .int 0, .null, .int 0])), (q7, .inl (c7, 12, .inl (fun _ => 0))), (q15, .inl (c15, 12, .inl (fun _ => 0))), (q23, .inl (c23, 16, .inl (fun _ => 0)))] H := hP
  have hD : va_D A [(h0, .inr (6, [.int 0, .ref q7, .ref q15, .int 0, .int 0, .int 0, .ref q23, .null, .null, .null, .int 0, .int 0, .int 0, .null, .int 0, .null, .int 0])), (q7, .inl (c7, 12, .inl (fun _ => 0))), (q15, .inl (c15, 12, .inl (fun _ => 0))), (q23, .inl (c23, 16, .inl (fun _ => 0)))] := hD
  refine lv_aload_n hx hb d_Sc_init_28 rfl (lv_at hl 0 rfl) ?_
  refine lv_bipush (v := 16) hx hb d_Sc_init_29 (by decide +kernel) ?_
  refine va_newa (atype := .int) (ty := .int) (N' := 16) (a0 := (16, .inl (fun _ => 0))) hx hb (hTA _ w_arr_int _) rfl hK hP hD hS hA (fun _ => rfl) (by decide +kernel) (by decide +kernel) (by decide) (Nat.le_of_ble_eq_true rfl) (Nat.le_of_ble_eq_true rfl) d_Sc_init_31 (fun q31 c31 H hK hP hD hS => ?_)
  have hP : va_P D classes [(h0, .inr (6, [.int 0, .ref q7, .ref q15, .int 0, .int 0, .int 0, .ref q23, .null, .null, .null, .int 0, .int 0, .int 0, .null, .int 0, .null, .int 0])), (q7, .inl (c7, 12, .inl (fun _ => 0))), (q15, .inl (c15, 12, .inl (fun _ => 0))), (q23, .inl (c23, 16, .inl (fun _ => 0))), (q31, .inl (c31, 16, .inl (fun _ => 0)))] H := hP
  have hD : va_D A [(h0, .inr (6, [.int 0, .ref q7, .ref q15, .int 0, .int 0, .int 0, .ref q23, .null, .null, .null, .int 0, .int 0, .int 0, .null, .int 0, .null, .int 0])), (q7, .inl (c7, 12, .inl (fun _ => 0))), (q15, .inl (c15, 12, .inl (fun _ => 0))), (q23, .inl (c23, 16, .inl (fun _ => 0))), (q31, .inl (c31, 16, .inl (fun _ => 0)))] := hD
  have hK : va_K D classes [(c7, .int), (c15, .int), (c23, .int), (c31, .int)] s := hK
  refine va_putF (D := D) (ci := 6) (v := .ref q31) (C := RX6) (T := TX6) (N := 17) hx hb (TW.lays (args := #[.ref h0]) hTW inX6) (fun w h => h) tyX6 tyX6_ok nmX6 hown hK hP hD hS 0 rfl rfl 7 (by decide) (hTW _ w_fl_Sc_init_21 rfl _) (fun _ h9 => h9) rfl hin rfl (tyX6_ok 7 (by decide)) rfl rfl (Nat.le_of_ble_eq_true rfl) d_Sc_init_33 (fun H locs hP hD hS => ?_)
  have hP : va_P D classes [(h0, .inr (6, [.int 0, .ref q7, .ref q15, .int 0, .int 0, .int 0, .ref q23, .ref q31, .null, .null, .int 0, .int 0, .int 0, .null, .int 0, .null, .int 0])), (q7, .inl (c7, 12, .inl (fun _ => 0))), (q15, .inl (c15, 12, .inl (fun _ => 0))), (q23, .inl (c23, 16, .inl (fun _ => 0))), (q31, .inl (c31, 16, .inl (fun _ => 0)))] H := hP
  have hD : va_D A [(h0, .inr (6, [.int 0, .ref q7, .ref q15, .int 0, .int 0, .int 0, .ref q23, .ref q31, .null, .null, .int 0, .int 0, .int 0, .null, .int 0, .null, .int 0])), (q7, .inl (c7, 12, .inl (fun _ => 0))), (q15, .inl (c15, 12, .inl (fun _ => 0))), (q23, .inl (c23, 16, .inl (fun _ => 0))), (q31, .inl (c31, 16, .inl (fun _ => 0)))] := hD
  refine lv_aload_n hx hb d_Sc_init_36 rfl (lv_at hl 0 rfl) ?_
  refine lv_bipush (v := 16) hx hb d_Sc_init_37 (by decide +kernel) ?_
  refine va_newa (atype := .int) (ty := .int) (N' := 16) (a0 := (16, .inl (fun _ => 0))) hx hb (hTA _ w_arr_int _) rfl hK hP hD hS hA (fun _ => rfl) (by decide +kernel) (by decide +kernel) (by decide) (Nat.le_of_ble_eq_true rfl) (Nat.le_of_ble_eq_true rfl) d_Sc_init_39 (fun q39 c39 H hK hP hD hS => ?_)
  have hP : va_P D classes [(h0, .inr (6, [.int 0, .ref q7, .ref q15, .int 0, .int 0, .int 0, .ref q23, .ref q31, .null, .null, .int 0, .int 0, .int 0, .null, .int 0, .null, .int 0])), (q7, .inl (c7, 12, .inl (fun _ => 0))), (q15, .inl (c15, 12, .inl (fun _ => 0))), (q23, .inl (c23, 16, .inl (fun _ => 0))), (q31, .inl (c31, 16, .inl (fun _ => 0))), (q39, .inl (c39, 16, .inl (fun _ => 0)))] H := hP
  have hD : va_D A [(h0, .inr (6, [.int 0, .ref q7, .ref q15, .int 0, .int 0, .int 0, .ref q23, .ref q31, .null, .null, .int 0, .int 0, .int 0, .null, .int 0, .null, .int 0])), (q7, .inl (c7, 12, .inl (fun _ => 0))), (q15, .inl (c15, 12, .inl (fun _ => 0))), (q23, .inl (c23, 16, .inl (fun _ => 0))), (q31, .inl (c31, 16, .inl (fun _ => 0))), (q39, .inl (c39, 16, .inl (fun _ => 0)))] := hD
  have hK : va_K D classes [(c7, .int), (c15, .int), (c23, .int), (c31, .int), (c39, .int)] s := hK
  refine va_putF (D := D) (ci := 6) (v := .ref q39) (C := RX6) (T := TX6) (N := 17) hx hb (TW.lays (args := #[.ref h0]) hTW inX6) (fun w h => h) tyX6 tyX6_ok nmX6 hown hK hP hD hS 0 rfl rfl 8 (by decide) (hTW _ w_fl_Sc_init_24 rfl _) (fun _ h9 => h9) rfl hin rfl (tyX6_ok 8 (by decide)) rfl rfl (Nat.le_of_ble_eq_true rfl) d_Sc_init_41 (fun H locs hP hD hS => ?_)
  have hP : va_P D classes [(h0, .inr (6, [.int 0, .ref q7, .ref q15, .int 0, .int 0, .int 0, .ref q23, .ref q31, .ref q39, .null, .int 0, .int 0, .int 0, .null, .int 0, .null, .int 0])), (q7, .inl (c7, 12, .inl (fun _ => 0))), (q15, .inl (c15, 12, .inl (fun _ => 0))), (q23, .inl (c23, 16, .inl (fun _ => 0))), (q31, .inl (c31, 16, .inl (fun _ => 0))), (q39, .inl (c39, 16, .inl (fun _ => 0)))] H := hP
  have hD : va_D A [(h0, .inr (6, [.int 0, .ref q7, .ref q15, .int 0, .int 0, .int 0, .ref q23, .ref q31, .ref q39, .null, .int 0, .int 0, .int 0, .null, .int 0, .null, .int 0])), (q7, .inl (c7, 12, .inl (fun _ => 0))), (q15, .inl (c15, 12, .inl (fun _ => 0))), (q23, .inl (c23, 16, .inl (fun _ => 0))), (q31, .inl (c31, 16, .inl (fun _ => 0))), (q39, .inl (c39, 16, .inl (fun _ => 0)))] := hD
  refine lv_aload_n hx hb d_Sc_init_44 rfl (lv_at hl 0 rfl) ?_
  refine lv_bipush (v := 12) hx hb d_Sc_init_45 (by decide +kernel) ?_
  refine va_newa (atype := .long) (ty := .long) (N' := 12) (a0 := (12, .inr (.inl (fun _ => 0)))) hx hb (hTA _ w_arr_long _) rfl hK hP hD hS hA (fun _ => rfl) (by decide +kernel) (by decide +kernel) (by decide) (Nat.le_of_ble_eq_true rfl) (Nat.le_of_ble_eq_true rfl) d_Sc_init_47 (fun q47 c47 H hK hP hD hS => ?_)
  have hP : va_P D classes [(h0, .inr (6, [.int 0, .ref q7, .ref q15, .int 0, .int 0, .int 0, .ref q23, .ref q31, .ref q39, .null, .int 0, .int 0, .int 0, .null, .int 0, .null, .int 0])), (q7, .inl (c7, 12, .inl (fun _ => 0))), (q15, .inl (c15, 12, .inl (fun _ => 0))), (q23, .inl (c23, 16, .inl (fun _ => 0))), (q31, .inl (c31, 16, .inl (fun _ => 0))), (q39, .inl (c39, 16, .inl (fun _ => 0))), (q47, .inl (c47, 12, .inr (.inl (fun _ => 0))))] H := hP
  have hD : va_D A [(h0, .inr (6, [.int 0, .ref q7, .ref q15, .int 0, .int 0, .int 0, .ref q23, .ref q31, .ref q39, .null, .int 0, .int 0, .int 0, .null, .int 0, .null, .int 0])), (q7, .inl (c7, 12, .inl (fun _ => 0))), (q15, .inl (c15, 12, .inl (fun _ => 0))), (q23, .inl (c23, 16, .inl (fun _ => 0))), (q31, .inl (c31, 16, .inl (fun _ => 0))), (q39, .inl (c39, 16, .inl (fun _ => 0))), (q47, .inl (c47, 12, .inr (.inl (fun _ => 0))))] := hD
  have hK : va_K D classes [(c7, .int), (c15, .int), (c23, .int), (c31, .int), (c39, .int), (c47, .long)] s := hK
  refine va_putF (D := D) (ci := 6) (v := .ref q47) (C := RX6) (T := TX6) (N := 17) hx hb (TW.lays (args := #[.ref h0]) hTW inX6) (fun w h => h) tyX6 tyX6_ok nmX6 hown hK hP hD hS 0 rfl rfl 9 (by decide) (hTW _ w_fl_Sc_init_27 rfl _) (fun _ h9 => h9) rfl hin rfl (tyX6_ok 9 (by decide)) rfl rfl (Nat.le_of_ble_eq_true rfl) d_Sc_init_49 (fun H locs hP hD hS => ?_)
  have hP : va_P D classes [(h0, .inr (6, [.int 0, .ref q7, .ref q15, .int 0, .int 0, .int 0, .ref q23, .ref q31, .ref q39, .ref q47, .int 0, .int 0, .int 0, .null, .int 0, .null, .int 0])), (q7, .inl (c7, 12, .inl (fun _ => 0))), (q15, .inl (c15, 12, .inl (fun _ => 0))), (q23, .inl (c23, 16, .inl (fun _ => 0))), (q31, .inl (c31, 16, .inl (fun _ => 0))), (q39, .inl (c39, 16, .inl (fun _ => 0))), (q47, .inl (c47, 12, .inr (.inl (fun _ => 0))))] H := hP
  have hD : va_D A [(h0, .inr (6, [.int 0, .ref q7, .ref q15, .int 0, .int 0, .int 0, .ref q23, .ref q31, .ref q39, .ref q47, .int 0, .int 0, .int 0, .null, .int 0, .null, .int 0])), (q7, .inl (c7, 12, .inl (fun _ => 0))), (q15, .inl (c15, 12, .inl (fun _ => 0))), (q23, .inl (c23, 16, .inl (fun _ => 0))), (q31, .inl (c31, 16, .inl (fun _ => 0))), (q39, .inl (c39, 16, .inl (fun _ => 0))), (q47, .inl (c47, 12, .inr (.inl (fun _ => 0))))] := hD
  refine lv_aload_n hx hb d_Sc_init_52 rfl (lv_at hl 0 rfl) ?_
  refine lv_bipush (v := 12) hx hb d_Sc_init_53 (by decide +kernel) ?_
  refine va_newa (atype := .int) (ty := .int) (N' := 12) (a0 := (12, .inl (fun _ => 0))) hx hb (hTA _ w_arr_int _) rfl hK hP hD hS hA (fun _ => rfl) (by decide +kernel) (by decide +kernel) (by decide) (Nat.le_of_ble_eq_true rfl) (Nat.le_of_ble_eq_true rfl) d_Sc_init_55 (fun q55 c55 H hK hP hD hS => ?_)
  have hP : va_P D classes [(h0, .inr (6, [.int 0, .ref q7, .ref q15, .int 0, .int 0, .int 0, .ref q23, .ref q31, .ref q39, .ref q47, .int 0, .int 0, .int 0, .null, .int 0, .null, .int 0])), (q7, .inl (c7, 12, .inl (fun _ => 0))), (q15, .inl (c15, 12, .inl (fun _ => 0))), (q23, .inl (c23, 16, .inl (fun _ => 0))), (q31, .inl (c31, 16, .inl (fun _ => 0))), (q39, .inl (c39, 16, .inl (fun _ => 0))), (q47, .inl (c47, 12, .inr (.inl (fun _ => 0)))), (q55, .inl (c55, 12, .inl (fun _ => 0)))] H := hP
  have hD : va_D A [(h0, .inr (6, [.int 0, .ref q7, .ref q15, .int 0, .int 0, .int 0, .ref q23, .ref q31, .ref q39, .ref q47, .int 0, .int 0, .int 0, .null, .int 0, .null, .int 0])), (q7, .inl (c7, 12, .inl (fun _ => 0))), (q15, .inl (c15, 12, .inl (fun _ => 0))), (q23, .inl (c23, 16, .inl (fun _ => 0))), (q31, .inl (c31, 16, .inl (fun _ => 0))), (q39, .inl (c39, 16, .inl (fun _ => 0))), (q47, .inl (c47, 12, .inr (.inl (fun _ => 0)))), (q55, .inl (c55, 12, .inl (fun _ => 0)))] := hD
  have hK : va_K D classes [(c7, .int), (c15, .int), (c23, .int), (c31, .int), (c39, .int), (c47, .long), (c55, .int)] s := hK
  refine va_putF (D := D) (ci := 6) (v := .ref q55) (C := RX6) (T := TX6) (N := 17) hx hb (TW.lays (args := #[.ref h0]) hTW inX6) (fun w h => h) tyX6 tyX6_ok nmX6 hown hK hP hD hS 0 rfl rfl 13 (by decide) (hTW _ w_fl_Sc_init_31 rfl _) (fun _ h9 => h9) rfl hin rfl (tyX6_ok 13 (by decide)) rfl rfl (Nat.le_of_ble_eq_true rfl) d_Sc_init_57 (fun H locs hP hD hS => ?_)
  have hP : va_P D classes [(h0, .inr (6, [.int 0, .ref q7, .ref q15, .int 0, .int 0, .int 0, .ref q23, .ref q31, .ref q39, .ref q47, .int 0, .int 0, .int 0, .ref q55, .int 0, .null, .int 0])), (q7, .inl (c7, 12, .inl (fun _ => 0))), (q15, .inl (c15, 12, .inl (fun _ => 0))), (q23, .inl (c23, 16, .inl (fun _ => 0))), (q31, .inl (c31, 16, .inl (fun _ => 0))), (q39, .inl (c39, 16, .inl (fun _ => 0))), (q47, .inl (c47, 12, .inr (.inl (fun _ => 0)))), (q55, .inl (c55, 12, .inl (fun _ => 0)))] H := hP
  have hD : va_D A [(h0, .inr (6, [.int 0, .ref q7, .ref q15, .int 0, .int 0, .int 0, .ref q23, .ref q31, .ref q39, .ref q47, .int 0, .int 0, .int 0, .ref q55, .int 0, .null, .int 0])), (q7, .inl (c7, 12, .inl (fun _ => 0))), (q15, .inl (c15, 12, .inl (fun _ => 0))), (q23, .inl (c23, 16, .inl (fun _ => 0))), (q31, .inl (c31, 16, .inl (fun _ => 0))), (q39, .inl (c39, 16, .inl (fun _ => 0))), (q47, .inl (c47, 12, .inr (.inl (fun _ => 0)))), (q55, .inl (c55, 12, .inl (fun _ => 0)))] := hD
  refine lv_aload_n hx hb d_Sc_init_60 rfl (lv_at hl 0 rfl) ?_
  refine lv_bipush (v := 40) hx hb d_Sc_init_61 (by decide +kernel) ?_
  refine va_newa (atype := .int) (ty := .int) (N' := 40) (a0 := (40, .inl (fun _ => 0))) hx hb (hTA _ w_arr_int _) rfl hK hP hD hS hA (fun _ => rfl) (by decide +kernel) (by decide +kernel) (by decide) (Nat.le_of_ble_eq_true rfl) (Nat.le_of_ble_eq_true rfl) d_Sc_init_63 (fun q63 c63 H hK hP hD hS => ?_)
  have hP : va_P D classes [(h0, .inr (6, [.int 0, .ref q7, .ref q15, .int 0, .int 0, .int 0, .ref q23, .ref q31, .ref q39, .ref q47, .int 0, .int 0, .int 0, .ref q55, .int 0, .null, .int 0])), (q7, .inl (c7, 12, .inl (fun _ => 0))), (q15, .inl (c15, 12, .inl (fun _ => 0))), (q23, .inl (c23, 16, .inl (fun _ => 0))), (q31, .inl (c31, 16, .inl (fun _ => 0))), (q39, .inl (c39, 16, .inl (fun _ => 0))), (q47, .inl (c47, 12, .inr (.inl (fun _ => 0)))), (q55, .inl (c55, 12, .inl (fun _ => 0))), (q63, .inl (c63, 40, .inl (fun _ => 0)))] H := hP
  have hD : va_D A [(h0, .inr (6, [.int 0, .ref q7, .ref q15, .int 0, .int 0, .int 0, .ref q23, .ref q31, .ref q39, .ref q47, .int 0, .int 0, .int 0, .ref q55, .int 0, .null, .int 0])), (q7, .inl (c7, 12, .inl (fun _ => 0))), (q15, .inl (c15, 12, .inl (fun _ => 0))), (q23, .inl (c23, 16, .inl (fun _ => 0))), (q31, .inl (c31, 16, .inl (fun _ => 0))), (q39, .inl (c39, 16, .inl (fun _ => 0))), (q47, .inl (c47, 12, .inr (.inl (fun _ => 0)))), (q55, .inl (c55, 12, .inl (fun _ => 0))), (q63, .inl (c63, 40, .inl (fun _ => 0)))] := hD
  have hK : va_K D classes [(c7, .int), (c15, .int), (c23, .int), (c31, .int), (c39, .int), (c47, .long), (c55, .int), (c63, .int)] s := hK
  refine va_putF (D := D) (ci := 6) (v := .ref q63) (C := RX6) (T := TX6) (N := 17) hx hb (TW.lays (args := #[.ref h0]) hTW inX6) (fun w h => h) tyX6 tyX6_ok nmX6 hown hK hP hD hS 0 rfl rfl 15 (by decide) (hTW _ w_fl_Sc_init_34 rfl _) (fun _ h9 => h9) rfl hin rfl (tyX6_ok 15 (by decide)) rfl rfl (Nat.le_of_ble_eq_true rfl) d_Sc_init_65 (fun H locs hP hD hS => ?_)
  have hP : va_P D classes [(h0, .inr (6, [.int 0, .ref q7, .ref q15, .int 0, .int 0, .int 0, .ref q23, .ref q31, .ref q39, .ref q47, .int 0, .int 0, .int 0, .ref q55, .int 0, .ref q63, .int 0])), (q7, .inl (c7, 12, .inl (fun _ => 0))), (q15, .inl (c15, 12, .inl (fun _ => 0))), (q23, .inl (c23, 16, .inl (fun _ => 0))), (q31, .inl (c31, 16, .inl (fun _ => 0))), (q39, .inl (c39, 16, .inl (fun _ => 0))), (q47, .inl (c47, 12, .inr (.inl (fun _ => 0)))), (q55, .inl (c55, 12, .inl (fun _ => 0))), (q63, .inl (c63, 40, .inl (fun _ => 0)))] H := hP
  have hD : va_D A [(h0, .inr (6, [.int 0, .ref q7, .ref q15, .int 0, .int 0, .int 0, .ref q23, .ref q31, .ref q39, .ref q47, .int 0, .int 0, .int 0, .ref q55, .int 0, .ref q63, .int 0])), (q7, .inl (c7, 12, .inl (fun _ => 0))), (q15, .inl (c15, 12, .inl (fun _ => 0))), (q23, .inl (c23, 16, .inl (fun _ => 0))), (q31, .inl (c31, 16, .inl (fun _ => 0))), (q39, .inl (c39, 16, .inl (fun _ => 0))), (q47, .inl (c47, 12, .inr (.inl (fun _ => 0)))), (q55, .inl (c55, 12, .inl (fun _ => 0))), (q63, .inl (c63, 40, .inl (fun _ => 0)))] := hD
  exact W.vret hx hb hr (fun t ht hW => ⟨⟨(), rfl, trivial, q7, q15, q23, q31, q39, q47, q55, q63, c7, c15, c23, c31, c39, c47, c55, c63, by rw [ht]; exact hP, va_K.moved hW.alike hK, hD⟩, hS.F ht⟩) hS.2.2 d_Sc_init_68
