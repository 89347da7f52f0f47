/-! gears are made -/
theorem w_oi_Ge_init : Cond.methodLink "DoorsOnCogs$Gears" 3 objectInit ∈ lw_tbl := in_tab1 _ (List.mem_of_getElem? (i := 156) rfl)
theorem w_fl_Ge_init_9 : Cond.fieldLink "DoorsOnCogs$Gears" 9 (TX2 1).1 (TX2 1).2.1 (TX2 1).2.2.1 ∈ lw_tbl := in_tab1 _ (List.mem_of_getElem? (i := 163) rfl)
theorem w_fl_Ge_init_15 : Cond.fieldLink "DoorsOnCogs$Gears" 15 (TX2 2).1 (TX2 2).2.1 (TX2 2).2.2.1 ∈ lw_tbl := in_tab1 _ (List.mem_of_getElem? (i := 168) rfl)
theorem w_fl_Ge_init_19 : Cond.fieldLink "DoorsOnCogs$Gears" 19 (TX2 3).1 (TX2 3).2.1 (TX2 3).2.2.1 ∈ lw_tbl := in_tab1 _ (List.mem_of_getElem? (i := 169) rfl)
theorem w_fl_Ge_init_22 : Cond.fieldLink "DoorsOnCogs$Gears" 22 (TX2 4).1 (TX2 4).2.1 (TX2 4).2.2.1 ∈ lw_tbl := in_tab1 _ (List.mem_of_getElem? (i := 170) rfl)
theorem w_fl_Ge_init_25 : Cond.fieldLink "DoorsOnCogs$Gears" 25 (TX2 5).1 (TX2 5).2.1 (TX2 5).2.2.1 ∈ lw_tbl := in_tab1 _ (List.mem_of_getElem? (i := 173) rfl)
theorem w_fl_Ge_init_28 : Cond.fieldLink "DoorsOnCogs$Gears" 28 (TX2 6).1 (TX2 6).2.1 (TX2 6).2.2.1 ∈ lw_tbl := in_tab1 _ (List.mem_of_getElem? (i := 174) rfl)
theorem w_fl_Ge_init_31 : Cond.fieldLink "DoorsOnCogs$Gears" 31 (TX2 0).1 (TX2 0).2.1 (TX2 0).2.2.1 ∈ lw_tbl := in_tab1 _ (List.mem_of_getElem? (i := 160) rfl)
theorem w_fill_Ge_init : Cond.methodLink "DoorsOnCogs$Gears" 35 y_Jarr_fill_aJJ.1 ∈ lw_tbl := in_tab1 _ (List.mem_of_getElem? (i := 157) rfl)
theorem d_Ge_init_0 : decode prog_4_method_1_code 0 = .ok (.aload_n 0, 1) := by decide +kernel
theorem d_Ge_init_1 : decode prog_4_method_1_code 1 = .ok (.invokespecial 3, 3) := by decide +kernel
theorem d_Ge_init_4 : decode prog_4_method_1_code 4 = .ok (.aload_n 0, 1) := by decide +kernel
theorem d_Ge_init_5 : decode prog_4_method_1_code 5 = .ok (.bipush 12, 2) := by decide +kernel
theorem d_Ge_init_7 : decode prog_4_method_1_code 7 = .ok (.newarray .int, 2) := by decide +kernel
theorem d_Ge_init_9 : decode prog_4_method_1_code 9 = .ok (.putfield 9, 3) := by decide +kernel
theorem d_Ge_init_12 : decode prog_4_method_1_code 12 = .ok (.aload_n 0, 1) := by decide +kernel
theorem d_Ge_init_13 : decode prog_4_method_1_code 13 = .ok (.bipush 12, 2) := by decide +kernel
theorem d_Ge_init_15 : decode prog_4_method_1_code 15 = .ok (.newarray .long, 2) := by decide +kernel
theorem d_Ge_init_17 : decode prog_4_method_1_code 17 = .ok (.putfield 15, 3) := by decide +kernel
theorem d_Ge_init_20 : decode prog_4_method_1_code 20 = .ok (.aload_n 0, 1) := by decide +kernel
theorem d_Ge_init_21 : decode prog_4_method_1_code 21 = .ok (.bipush 12, 2) := by decide +kernel
theorem d_Ge_init_23 : decode prog_4_method_1_code 23 = .ok (.newarray .long, 2) := by decide +kernel
theorem d_Ge_init_25 : decode prog_4_method_1_code 25 = .ok (.putfield 19, 3) := by decide +kernel
theorem d_Ge_init_28 : decode prog_4_method_1_code 28 = .ok (.aload_n 0, 1) := by decide +kernel
theorem d_Ge_init_29 : decode prog_4_method_1_code 29 = .ok (.bipush 12, 2) := by decide +kernel
theorem d_Ge_init_31 : decode prog_4_method_1_code 31 = .ok (.newarray .long, 2) := by decide +kernel
theorem d_Ge_init_33 : decode prog_4_method_1_code 33 = .ok (.putfield 22, 3) := by decide +kernel
theorem d_Ge_init_36 : decode prog_4_method_1_code 36 = .ok (.aload_n 0, 1) := by decide +kernel
theorem d_Ge_init_37 : decode prog_4_method_1_code 37 = .ok (.sipush 144, 3) := by decide +kernel
theorem d_Ge_init_40 : decode prog_4_method_1_code 40 = .ok (.newarray .long, 2) := by decide +kernel
theorem d_Ge_init_42 : decode prog_4_method_1_code 42 = .ok (.putfield 25, 3) := by decide +kernel
theorem d_Ge_init_45 : decode prog_4_method_1_code 45 = .ok (.aload_n 0, 1) := by decide +kernel
theorem d_Ge_init_46 : decode prog_4_method_1_code 46 = .ok (.bipush 12, 2) := by decide +kernel
theorem d_Ge_init_48 : decode prog_4_method_1_code 48 = .ok (.newarray .long, 2) := by decide +kernel
theorem d_Ge_init_50 : decode prog_4_method_1_code 50 = .ok (.putfield 28, 3) := by decide +kernel
theorem d_Ge_init_53 : decode prog_4_method_1_code 53 = .ok (.aload_n 0, 1) := by decide +kernel
theorem d_Ge_init_54 : decode prog_4_method_1_code 54 = .ok (.aload_n 1, 1) := by decide +kernel
theorem d_Ge_init_55 : decode prog_4_method_1_code 55 = .ok (.putfield 31, 3) := by decide +kernel
theorem d_Ge_init_58 : decode prog_4_method_1_code 58 = .ok (.aload_n 0, 1) := by decide +kernel
theorem d_Ge_init_59 : decode prog_4_method_1_code 59 = .ok (.getfield 22, 3) := by decide +kernel
theorem d_Ge_init_62 : decode prog_4_method_1_code 62 = .ok (.lconst 1, 1) := by decide +kernel
theorem d_Ge_init_63 : decode prog_4_method_1_code 63 = .ok (.invokestatic 35, 3) := by decide +kernel
theorem d_Ge_init_66 : decode prog_4_method_1_code 66 = .ok (.return_, 1) := by decide +kernel
set_option maxHeartbeats 4000000 in
set_option maxRecDepth 100000 in
theorem c_Ge_init (l : Launch) (D : va_G) (h0 a1 sz : Nat) : Met l y_Ge_init.1 [Cond.code y_Ge_init.1 y_Ge_init.2.1 y_Ge_init.2.2.1 y_Ge_init.2.2.2.1] ({ frames := 1, cells := 6, slots := 204, locals := 24 }) (va_Pc [.ref h0, .ref a1] (fun U => U.heap.size = sz ∧ va_P D classes [(h0, .inr (2, [.null, .null, .null, .null, .null, .null, .null, .int 0, .int 0]))] U.heap ∧ va_K D classes [] U ∧ va_D (fun _ => True) [(h0, .inr (2, [.null, .null, .null, .null, .null, .null, .null, .int 0, .int 0]))] ∧ TW U ∧ TA U)) (va_Qv (fun _ : Unit => True) (fun _ t => ∃ (q7 q15 q23 q40 q48 q31 : Nat) (c7 c15 c23 c31 c40 c48 : ClassId) (g : Nat → Int64), (∀ j, j < 12 → g j = 1) ∧ va_P D classes [(h0, .inr (2, [.ref a1, .ref q7, .ref q15, .ref q23, .ref q31, .ref q40, .ref q48, .int 0, .int 0])), (q7, .inl (c7, 12, .inl (fun _ => 0))), (q15, .inl (c15, 12, .inr (.inl (fun _ => 0)))), (q23, .inl (c23, 12, .inr (.inl (fun _ => 0)))), (q40, .inl (c40, 144, .inr (.inl (fun _ => 0)))), (q48, .inl (c48, 12, .inr (.inl (fun _ => 0)))), (q31, .inl (c31, 12, .inr (.inl g)))] t.heap ∧ va_K D classes [(c7, .int), (c15, .long), (c23, .long), (c31, .long), (c40, .long), (c48, .long)] t ∧ va_D (va_A [(h0, .inr (2, [.null, .null, .null, .null, .null, .null, .null, .int 0, .int 0]))] sz) [(h0, .inr (2, [.ref a1, .ref q7, .ref q15, .ref q23, .ref q31, .ref q40, .ref q48, .int 0, .int 0])), (q7, .inl (c7, 12, .inl (fun _ => 0))), (q15, .inl (c15, 12, .inr (.inl (fun _ => 0)))), (q23, .inl (c23, 12, .inr (.inl (fun _ => 0)))), (q40, .inl (c40, 144, .inr (.inl (fun _ => 0)))), (q48, .inl (c48, 12, .inr (.inl (fun _ => 0)))), (q31, .inl (c31, 12, .inr (.inl g)))]) (va_A [(h0, .inr (2, [.null, .null, .null, .null, .null, .null, .null, .int 0, .int 0]))] sz)) 6 204 (va_A [(h0, .inr (2, [.null, .null, .null, .null, .null, .null, .null, .int 0, .int 0]))] sz) := by
  refine Met.ofW (cc := y_Ge_init.2.1) (maxL := 2) (ret := none) (by decide) rfl ?_
  intro p e s m args0 below meth c s₁ B hml hv
  obtain ⟨rfl, hsz, hP, hK, hD0, hTW, hTA⟩ := hv
  have hx := B.exec
  have hb := B.bytes
  have hr := B.returns
  have hown : s.vm.findClass "DoorsOnCogs$Gears" = some m.cls := findClass_of_methodNamed B.named
  have hin : meth.name = "<init>" := (name_of_methodNamed B.named B.method).1
  subst hsz
  have hD := hD0.self (sz := s.heap.size)
  generalize hAe : va_A [(h0, .inr (2, [.null, .null, .null, .null, .null, .null, .null, .int 0, .int 0]))] s.heap.size = A at hD ⊢
  have hA : ∀ q : Nat, s.heap.size ≤ q → A q := fun q h => by rw [← hAe]; exact Or.inr h
  have hS : va_S A s.heap s.heap [] := va_S.rf
  have hl := lv_entry ([.ref h0, .ref a1]) (n := 2) (Nat.le_of_ble_eq_true rfl)
  rw [lg_entry_eq]
  generalize (lg_sl ([.ref h0, .ref a1]) ++ List.replicate (2 - (lg_sl ([.ref h0, .ref a1])).length) Slot.unset).toArray = ls at hl ⊢
  have hl : lv_has ls 2 [(0, .ref h0), (1, .ref a1)] := hl
  refine lv_aload_n hx hb d_Ge_init_0 rfl (lv_at hl 0 rfl) ?_
  refine W.objInit hx hb hown (hTW _ w_oi_Ge_init rfl _) (hTW _ w_oinst rfl _) (hTW _ w_ocode rfl _) rfl (by rw [hml]; exact hl.1) rfl d_Ge_init_1 (Nat.le_of_ble_eq_true rfl) (Nat.le_of_ble_eq_true rfl) ?_
  refine W.eq (g2 := F0 m 4 ls []) rfl ?_
  refine lv_aload_n hx hb d_Ge_init_4 rfl (lv_at hl 0 rfl) ?_
  refine lv_bipush (v := 12) hx hb d_Ge_init_5 (by decide +kernel) ?_
  refine va_newa (atype := .int) (ty := .int) (N' := 12) (a0 := (12, .inl (fun _ => 0))) hx hb (hTA _ w_arr_int _) rfl hK hP hD hS hA (fun _ => rfl) (by decide +kernel) (by decide +kernel) (by decide) (Nat.le_of_ble_eq_true rfl) (Nat.le_of_ble_eq_true rfl) d_Ge_init_7 (fun q7 c7 H hK hP hD hS => ?_)
  have hP : va_P D classes [(h0, .inr (2, [.null, .null, .null, .null, .null, .null, .null, .int 0, .int 0])), (q7, .inl (c7, 12, .inl (fun _ => 0)))] H := hP
  have hD : va_D A [(h0, .inr (2, [.null, .null, .null, .null, .null, .null, .null, .int 0, .int 0])), (q7, .inl (c7, 12, .inl (fun _ => 0)))] := hD
  have hK : va_K D classes [(c7, .int)] s := hK
  refine va_putF (D := D) (ci := 2) (v := .ref q7) (C := RX2) (T := TX2) (N := 9) hx hb (TW.lays (args := #[.ref h0, .ref a1]) hTW inX2) (fun w h => h) tyX2 tyX2_ok nmX2 hown hK hP hD hS 0 rfl rfl 1 (by decide) (hTW _ w_fl_Ge_init_9 rfl _) (fun _ h9 => h9) rfl hin rfl (tyX2_ok 1 (by decide)) rfl rfl (Nat.le_of_ble_eq_true rfl) d_Ge_init_9 (fun H locs hP hD hS => ?_)
  have hP : va_P D classes [(h0, .inr (2, [.null, .ref q7, .null, .null, .null, .null, .null, .int 0, .int 0])), (q7, .inl (c7, 12, .inl (fun _ => 0)))] H := hP
  have hD : va_D A [(h0, .inr (2, [.null, .ref q7, .null, .null, .null, .null, .null, .int 0, .int 0])), (q7, .inl (c7, 12, .inl (fun _ => 0)))] := hD
  refine lv_aload_n hx hb d_Ge_init_12 rfl (lv_at hl 0 rfl) ?_
  refine lv_bipush (v := 12) hx hb d_Ge_init_13 (by decide +kernel) ?_
  refine va_newa (atype := .long) (ty := .long) (N' := 12) (a0 := (12, .inr (.inl (fun _ => 0)))) hx hb (hTA _ w_arr_long _) rfl hK hP hD hS hA (fun _ => rfl) (by decide +kernel) (by decide +kernel) (by decide) (Nat.le_of_ble_eq_true rfl) (Nat.le_of_ble_eq_true rfl) d_Ge_init_15 (fun q15 c15 H hK hP hD hS => ?_)
  have hP : va_P D classes [(h0, .inr (2, [.null, .ref q7, .null, .null, .null, .null, .null, .int 0, .int 0])), (q7, .inl (c7, 12, .inl (fun _ => 0))), (q15, .inl (c15, 12, .inr (.inl (fun _ => 0))))] H := hP
  have hD : va_D A [(h0, .inr (2, [.null, .ref q7, .null, .null, .null, .null, .null, .int 0, .int 0])), (q7, .inl (c7, 12, .inl (fun _ => 0))), (q15, .inl (c15, 12, .inr (.inl (fun _ => 0))))] := hD
  have hK : va_K D classes [(c7, .int), (c15, .long)] s := hK
  refine va_putF (D := D) (ci := 2) (v := .ref q15) (C := RX2) (T := TX2) (N := 9) hx hb (TW.lays (args := #[.ref h0, .ref a1]) hTW inX2) (fun w h => h) tyX2 tyX2_ok nmX2 hown hK hP hD hS 0 rfl rfl 2 (by decide) (hTW _ w_fl_Ge_init_15 rfl _) (fun _ h9 => h9) rfl hin rfl (tyX2_ok 2 (by decide)) rfl rfl (Nat.le_of_ble_eq_true rfl) d_Ge_init_17 (fun H locs hP hD hS => ?_)
  have hP : va_P D classes [(h0, .inr (2, [.null, .ref q7, .ref q15, .null, .null, .null, .null, .int 0, .int 0])), (q7, .inl (c7, 12, .inl (fun _ => 0))), (q15, .inl (c15, 12, .inr (.inl (fun _ => 0))))] H := hP
  have hD : va_D A [(h0, .inr (2, [.null, .ref q7, .ref q15, .null, .null, .null, .null, .int 0, .int 0])), (q7, .inl (c7, 12, .inl (fun _ => 0))), (q15, .inl (c15, 12, .inr (.inl (fun _ => 0))))] := hD
  refine lv_aload_n hx hb d_Ge_init_20 rfl (lv_at hl 0 rfl) ?_
  refine lv_bipush (v := 12) hx hb d_Ge_init_21 (by decide +kernel) ?_
  refine va_newa (atype := .long) (ty := .long) (N' := 12) (a0 := (12, .inr (.inl (fun _ => 0)))) hx hb (hTA _ w_arr_long _) rfl hK hP hD hS hA (fun _ => rfl) (by decide +kernel) (by decide +kernel) (by decide) (Nat.le_of_ble_eq_true rfl) (Nat.le_of_ble_eq_true rfl) d_Ge_init_23 (fun q23 c23 H hK hP hD hS => ?_)
  have hP : va_P D classes [(h0, .inr (2, [.null, .ref q7, .ref q15, .null, .null, .null, .null, .int 0, .int 0])), (q7, .inl (c7, 12, .inl (fun _ => 0))), (q15, .inl (c15, 12, .inr (.inl (fun _ => 0)))), (q23, .inl (c23, 12, .inr (.inl (fun _ => 0))))] H := hP
  have hD : va_D A [(h0, .inr (2, [.null, .ref q7, .ref q15, .null, .null, .null, .null, .int 0, .int 0])), (q7, .inl (c7, 12, .inl (fun _ => 0))), (q15, .inl (c15, 12, .inr (.inl (fun _ => 0)))), (q23, .inl (c23, 12, .inr (.inl (fun _ => 0))))] := hD
  have hK : va_K D classes [(c7, .int), (c15, .long), (c23, .long)] s := hK
  refine va_putF (D := D) (ci := 2) (v := .ref q23) (C := RX2) (T := TX2) (N := 9) hx hb (TW.lays (args := #[.ref h0, .ref a1]) hTW inX2) (fun w h => h) tyX2 tyX2_ok nmX2 hown hK hP hD hS 0 rfl rfl 3 (by decide) (hTW _ w_fl_Ge_init_19 rfl _) (fun _ h9 => h9) rfl hin rfl (tyX2_ok 3 (by decide)) rfl rfl (Nat.le_of_ble_eq_true rfl) d_Ge_init_25 (fun H locs hP hD hS => ?_)
  have hP : va_P D classes [(h0, .inr (2, [.null, .ref q7, .ref q15, .ref q23, .null, .null, .null, .int 0, .int 0])), (q7, .inl (c7, 12, .inl (fun _ => 0))), (q15, .inl (c15, 12, .inr (.inl (fun _ => 0)))), (q23, .inl (c23, 12, .inr (.inl (fun _ => 0))))] H := hP
  have hD : va_D A [(h0, .inr (2, [.null, .ref q7, .ref q15, .ref q23, .null, .null, .null, .int 0, .int 0])), (q7, .inl (c7, 12, .inl (fun _ => 0))), (q15, .inl (c15, 12, .inr (.inl (fun _ => 0)))), (q23, .inl (c23, 12, .inr (.inl (fun _ => 0))))] := hD
  refine lv_aload_n hx hb d_Ge_init_28 rfl (lv_at hl 0 rfl) ?_
  refine lv_bipush (v := 12) hx hb d_Ge_init_29 (by decide +kernel) ?_
  refine va_newa (atype := .long) (ty := .long) (N' := 12) (a0 := (12, .inr (.inl (fun _ => 0)))) hx hb (hTA _ w_arr_long _) rfl hK hP hD hS hA (fun _ => rfl) (by decide +kernel) (by decide +kernel) (by decide) (Nat.le_of_ble_eq_true rfl) (Nat.le_of_ble_eq_true rfl) d_Ge_init_31 (fun q31 c31 H hK hP hD hS => ?_)
  have hP : va_P D classes [(h0, .inr (2, [.null, .ref q7, .ref q15, .ref q23, .null, .null, .null, .int 0, .int 0])), (q7, .inl (c7, 12, .inl (fun _ => 0))), (q15, .inl (c15, 12, .inr (.inl (fun _ => 0)))), (q23, .inl (c23, 12, .inr (.inl (fun _ => 0)))), (q31, .inl (c31, 12, .inr (.inl (fun _ => 0))))] H := hP
  have hD : va_D A [(h0, .inr (2, [.null, .ref q7, .ref q15, .ref q23, .null, .null, .null, .int 0, .int 0])), (q7, .inl (c7, 12, .inl (fun _ => 0))), (q15, .inl (c15, 12, .inr (.inl (fun _ => 0)))), (q23, .inl (c23, 12, .inr (.inl (fun _ => 0)))), (q31, .inl (c31, 12, .inr (.inl (fun _ => 0))))] := hD
  have hK : va_K D classes [(c7, .int), (c15, .long), (c23, .long), (c31, .long)] s := hK
  refine va_putF (D := D) (ci := 2) (v := .ref q31) (C := RX2) (T := TX2) (N := 9) hx hb (TW.lays (args := #[.ref h0, .ref a1]) hTW inX2) (fun w h => h) tyX2 tyX2_ok nmX2 hown hK hP hD hS 0 rfl rfl 4 (by decide) (hTW _ w_fl_Ge_init_22 rfl _) (fun _ h9 => h9) rfl hin rfl (tyX2_ok 4 (by decide)) rfl rfl (Nat.le_of_ble_eq_true rfl) d_Ge_init_33 (fun H locs hP hD hS => ?_)
  have hP : va_P D classes [(h0, .inr (2, [.null, .ref q7, .ref q15, .ref q23, .ref q31, .null, .null, .int 0, .int 0])), (q7, .inl (c7, 12, .inl (fun _ => 0))), (q15, .inl (c15, 12, .inr (.inl (fun _ => 0)))), (q23, .inl (c23, 12, .inr (.inl (fun _ => 0)))), (q31, .inl (c31, 12, .inr (.inl (fun _ => 0))))] H := hP
  have hD : va_D A [(h0, .inr (2, [.null, .ref q7, .ref q15, .ref q23, .ref q31, .null, .null, .int 0, .int 0])), (q7, .inl (c7, 12, .inl (fun _ => 0))), (q15, .inl (c15, 12, .inr (.inl (fun _ => 0)))), (q23, .inl (c23, 12, .inr (.inl (fun _ => 0)))), (q31, .inl (c31, 12, .inr (.inl (fun _ => 0))))] := hD
  refine lv_aload_n hx hb d_Ge_init_36 rfl (lv_at hl 0 rfl) ?_
  refine lv_sipush (v := 144) hx hb d_Ge_init_37 (by decide +kernel) ?_
  refine va_newa (atype := .long) (ty := .long) (N' := 144) (a0 := (144, .inr (.inl (fun _ => 0)))) hx hb (hTA _ w_arr_long _) rfl hK hP hD hS hA (fun _ => rfl) (by decide +kernel) (by decide +kernel) (by decide) (Nat.le_of_ble_eq_true rfl) (Nat.le_of_ble_eq_true rfl) d_Ge_init_40 (fun q40 c40 H hK hP hD hS => ?_)
  have hP : va_P D classes [(h0, .inr (2, [.null, .ref q7, .ref q15, .ref q23, .ref q31, .null, .null, .int 0, .int 0])), (q7, .inl (c7, 12, .inl (fun _ => 0))), (q15, .inl (c15, 12, .inr (.inl (fun _ => 0)))), (q23, .inl (c23, 12, .inr (.inl (fun _ => 0)))), (q31, .inl (c31, 12, .inr (.inl (fun _ => 0)))), (q40, .inl (c40, 144, .inr (.inl (fun _ => 0))))] H := hP
  have hD : va_D A [(h0, .inr (2, [.null, .ref q7, .ref q15, .ref q23, .ref q31, .null, .null, .int 0, .int 0])), (q7, .inl (c7, 12, .inl (fun _ => 0))), (q15, .inl (c15, 12, .inr (.inl (fun _ => 0)))), (q23, .inl (c23, 12, .inr (.inl (fun _ => 0)))), (q31, .inl (c31, 12, .inr (.inl (fun _ => 0)))), (q40, .inl (c40, 144, .inr (.inl (fun _ => 0))))] := hD
  have hK : va_K D classes [(c7, .int), (c15, .long), (c23, .long), (c31, .long), (c40, .long)] s := hK
  refine va_putF (D := D) (ci := 2) (v := .ref q40) (C := RX2) (T := TX2) (N := 9) hx hb (TW.lays (args := #[.ref h0, .ref a1]) hTW inX2) (fun w h => h) tyX2 tyX2_ok nmX2 hown hK hP hD hS 0 rfl rfl 5 (by decide) (hTW _ w_fl_Ge_init_25 rfl _) (fun _ h9 => h9) rfl hin rfl (tyX2_ok 5 (by decide)) rfl rfl (Nat.le_of_ble_eq_true rfl) d_Ge_init_42 (fun H locs hP hD hS => ?_)
  have hP : va_P D classes [(h0, .inr (2, [.null, .ref q7, .ref q15, .ref q23, .ref q31, .ref q40, .null, .int 0, .int 0])), (q7, .inl (c7, 12, .inl (fun _ => 0))), (q15, .inl (c15, 12, .inr (.inl (fun _ => 0)))), (q23, .inl (c23, 12, .inr (.inl (fun _ => 0)))), (q31, .inl (c31, 12, .inr (.inl (fun _ => 0)))), (q40, .inl (c40, 144, .inr (.inl (fun _ => 0))))] H := hP
  have hD : va_D A [(h0, .inr (2, [.null, .ref q7, .ref q15, .ref q23, .ref q31, .ref q40, .null, .int 0, .int 0])), (q7, .inl (c7, 12, .inl (fun _ => 0))), (q15, .inl (c15, 12, .inr (.inl (fun _ => 0)))), (q23, .inl (c23, 12, .inr (.inl (fun _ => 0)))), (q31, .inl (c31, 12, .inr (.inl (fun _ => 0)))), (q40, .inl (c40, 144, .inr (.inl (fun _ => 0))))] := hD
  refine lv_aload_n hx hb d_Ge_init_45 rfl (lv_at hl 0 rfl) ?_
  refine lv_bipush (v := 12) hx hb d_Ge_init_46 (by decide +kernel) ?_
  refine va_newa (atype := .long) (ty := .long) (N' := 12) (a0 := (12, .inr (.inl (fun _ => 0)))) hx hb (hTA _ w_arr_long _) rfl hK hP hD hS hA (fun _ => rfl) (by decide +kernel) (by decide +kernel) (by decide) (Nat.le_of_ble_eq_true rfl) (Nat.le_of_ble_eq_true rfl) d_Ge_init_48 (fun q48 c48 H hK hP hD hS => ?_)
  have hP : va_P D classes [(h0, .inr (2, [.null, .ref q7, .ref q15, .ref q23, .ref q31, .ref q40, .null, .int 0, .int 0])), (q7, .inl (c7, 12, .inl (fun _ => 0))), (q15, .inl (c15, 12, .inr (.inl (fun _ => 0)))), (q23, .inl (c23, 12, .inr (.inl (fun _ => 0)))), (q31, .inl (c31, 12, .inr (.inl (fun _ => 0)))), (q40, .inl (c40, 144, .inr (.inl (fun _ => 0)))), (q48, .inl (c48, 12, .inr (.inl (fun _ => 0))))] H := hP
  have hD : va_D A [(h0, .inr (2, [.null, .ref q7, .ref q15, .ref q23, .ref q31, .ref q40, .null, .int 0, .int 0])), (q7, .inl (c7, 12, .inl (fun _ => 0))), (q15, .inl (c15, 12, .inr (.inl (fun _ => 0)))), (q23, .inl (c23, 12, .inr (.inl (fun _ => 0)))), (q31, .inl (c31, 12, .inr (.inl (fun _ => 0)))), (q40, .inl (c40, 144, .inr (.inl (fun _ => 0)))), (q48, .inl (c48, 12, .inr (.inl (fun _ => 0))))] := hD
  have hK : va_K D classes [(c7, .int), (c15, .long), (c23, .long), (c31, .long), (c40, .long), (c48, .long)] s := hK
  refine va_putF (D := D) (ci := 2) (v := .ref q48) (C := RX2) (T := TX2) (N := 9) hx hb (TW.lays (args := #[.ref h0, .ref a1]) hTW inX2) (fun w h => h) tyX2 tyX2_ok nmX2 hown hK hP hD hS 0 rfl rfl 6 (by decide) (hTW _ w_fl_Ge_init_28 rfl _) (fun _ h9 => h9) rfl hin rfl (tyX2_ok 6 (by decide)) rfl rfl (Nat.le_of_ble_eq_true rfl) d_Ge_init_50 (fun H locs hP hD hS => ?_)
  have hP : va_P D classes [(h0, .inr (2, [.null, .ref q7, .ref q15, .ref q23, .ref q31, .ref q40, .ref q48, .int 0, .int 0])), (q7, .inl (c7, 12, .inl (fun _ => 0))), (q15, .inl (c15, 12, .inr (.inl (fun _ => 0)))), (q23, .inl (c23, 12, .inr (.inl (fun _ => 0)))), (q31, .inl (c31, 12, .inr (.inl (fun _ => 0)))), (q40, .inl (c40, 144, .inr (.inl (fun _ => 0)))), (q48, .inl (c48, 12, .inr (.inl (fun _ => 0))))] H := hP
  have hD : va_D A [(h0, .inr (2, [.null, .ref q7, .ref q15, .ref q23, .ref q31, .ref q40, .ref q48, .int 0, .int 0])), (q7, .inl (c7, 12, .inl (fun _ => 0))), (q15, .inl (c15, 12, .inr (.inl (fun _ => 0)))), (q23, .inl (c23, 12, .inr (.inl (fun _ => 0)))), (q31, .inl (c31, 12, .inr (.inl (fun _ => 0)))), (q40, .inl (c40, 144, .inr (.inl (fun _ => 0)))), (q48, .inl (c48, 12, .inr (.inl (fun _ => 0))))] := hD
  refine lv_aload_n hx hb d_Ge_init_53 rfl (lv_at hl 0 rfl) ?_
  refine lv_aload_n hx hb d_Ge_init_54 rfl (lv_at hl 1 rfl) ?_
  refine va_putF (D := D) (ci := 2) (v := .ref a1) (C := RX2) (T := TX2) (N := 9) hx hb (TW.lays (args := #[.ref h0, .ref a1]) hTW inX2) (fun w h => h) tyX2 tyX2_ok nmX2 hown hK hP hD hS 0 rfl rfl 0 (by decide) (hTW _ w_fl_Ge_init_31 rfl _) (fun _ h9 => h9) rfl hin rfl (tyX2_ok 0 (by decide)) rfl rfl (Nat.le_of_ble_eq_true rfl) d_Ge_init_55 (fun H locs hP hD hS => ?_)
  have hP : va_P D classes [(h0, .inr (2, [.ref a1, .ref q7, .ref q15, .ref q23, .ref q31, .ref q40, .ref q48, .int 0, .int 0])), (q7, .inl (c7, 12, .inl (fun _ => 0))), (q15, .inl (c15, 12, .inr (.inl (fun _ => 0)))), (q23, .inl (c23, 12, .inr (.inl (fun _ => 0)))), (q31, .inl (c31, 12, .inr (.inl (fun _ => 0)))), (q40, .inl (c40, 144, .inr (.inl (fun _ => 0)))), (q48, .inl (c48, 12, .inr (.inl (fun _ => 0))))] H := hP
  have hD : va_D A [(h0, .inr (2, [.ref a1, .ref q7, .ref q15, .ref q23, .ref q31, .ref q40, .ref q48, .int 0, .int 0])), (q7, .inl (c7, 12, .inl (fun _ => 0))), (q15, .inl (c15, 12, .inr (.inl (fun _ => 0)))), (q23, .inl (c23, 12, .inr (.inl (fun _ => 0)))), (q31, .inl (c31, 12, .inr (.inl (fun _ => 0)))), (q40, .inl (c40, 144, .inr (.inl (fun _ => 0)))), (q48, .inl (c48, 12, .inr (.inl (fun _ => 0))))] := hD
  refine lv_aload_n hx hb d_Ge_init_58 rfl (lv_at hl 0 rfl) ?_
  refine va_get (D := D) (ci := 2) (v := .ref q31) (C := RX2) (T := TX2) (N := 9) hx hb (TW.lays (args := #[.ref h0, .ref a1]) hTW inX2) (fun w h => h) hown hK hP 0 rfl rfl 4 (by decide) (hTW _ w_fl_Ge_init_22 rfl _) (fun _ h9 => h9) rfl d_Ge_init_59 ?_
  refine lv_lconst (v := 1) hx hb d_Ge_init_62 rfl ?_
  have hPc := hP.sub (ws' := [(q31, .inl (c31, 12, .inr (.inl (fun _ => 0))))]) [4] rfl
  have hDc := hD.sub (ws' := [(q31, .inl (c31, 12, .inr (.inl (fun _ => 0))))]) [4] (by decide) rfl
  have hKc := hK.sub (tys' := [(c31, .long)]) [3] rfl
  have hFc := va_free (wc := [(q31, .inl (c31, 12, .inr (.inl (fun _ => 0))))]) hD hS hA [4] rfl
  refine va_callv (va_runS (bytes := y_Jarr_fill_aJJ.2.1) (maxL := 5) (ret := none) (index := 35) (n := 2) (As := [.ref q31, .long 1]) (rest := []) (Ts := []) ⟨hx, hb, hml, hown, fun w hw => by cases hw⟩ (c_fill l D q31 H.size c31 (fun _ => 0)) ⟨⟨rfl, rfl, Nat.le_of_ble_eq_true rfl, Nat.le_of_ble_eq_true rfl, fun w hw a' U hW => by rw [List.mem_singleton] at hw; subst hw; exact TW.warm hW hTW _ mw_Jarr_fill_aJJ.1 rfl _, List.mem_singleton.mpr rfl, hTW _ mw_Jarr_fill_aJJ.1 rfl _, hTW _ mw_Jarr_fill_aJJ.2.1 rfl _, ⟨mw_Jarr_fill_aJJ.2.2.1, mw_Jarr_fill_aJJ.2.2.2.1⟩, fun sig h => by have z6 := mw_Jarr_fill_aJJ.2.2.2.2.2; rw [h] at z6; exact (Option.some.inj z6).symm, hTW _ w_fill_Ge_init rfl _⟩, hTW _ ms_Jarr_fill_aJJ rfl _⟩ ⟨fun a U g mk q => by obtain ⟨q0, q1, qP, qK, qD⟩ := q; exact ⟨q0, q1, qP, va_K.moved (u := U) (U := U.calling g mk a) (Vm.Alike.refl U.vm) qK, qD⟩, fun U hU hW => ⟨rfl, by rw [hU], by rw [hU]; exact hPc, va_K.moved hW.alike hKc, hDc.weaken (fun _ _ _ _ => trivial)⟩⟩ rfl rfl hl.1 rfl (lv_room (Nat.le_of_ble_eq_true rfl)) d_Ge_init_63 ⟨Nat.le_of_ble_eq_true rfl, Nat.le_of_ble_eq_true rfl⟩) hS (fun q _ h => hFc q h) hFc (fun g t H1 locs ht hvm hw hB hz1 hk1 hS => ?_)
  obtain ⟨hP1, hK1, hD1⟩ := hB
  rw [ht] at hP1
  obtain ⟨hP, hD⟩ := va_join (wr := [(h0, .inr (2, [.ref a1, .ref q7, .ref q15, .ref q23, .ref q31, .ref q40, .ref q48, .int 0, .int 0])), (q7, .inl (c7, 12, .inl (fun _ => 0))), (q15, .inl (c15, 12, .inr (.inl (fun _ => 0)))), (q23, .inl (c23, 12, .inr (.inl (fun _ => 0)))), (q40, .inl (c40, 144, .inr (.inl (fun _ => 0)))), (q48, .inl (c48, 12, .inr (.inl (fun _ => 0))))]) (w1 := [(q31, .inl (c31, 12, .inr (.inl g)))]) hP hD [4] [0, 1, 2, 3, 5, 6] rfl rfl (by decide) (by decide) hk1 hFc hP1 hD1
  generalize H1 = H at hP hS ⊢
  have hP : va_P D classes [(h0, .inr (2, [.ref a1, .ref q7, .ref q15, .ref q23, .ref q31, .ref q40, .ref q48, .int 0, .int 0])), (q7, .inl (c7, 12, .inl (fun _ => 0))), (q15, .inl (c15, 12, .inr (.inl (fun _ => 0)))), (q23, .inl (c23, 12, .inr (.inl (fun _ => 0)))), (q40, .inl (c40, 144, .inr (.inl (fun _ => 0)))), (q48, .inl (c48, 12, .inr (.inl (fun _ => 0)))), (q31, .inl (c31, 12, .inr (.inl g)))] H := hP
  have hD : va_D A [(h0, .inr (2, [.ref a1, .ref q7, .ref q15, .ref q23, .ref q31, .ref q40, .ref q48, .int 0, .int 0])), (q7, .inl (c7, 12, .inl (fun _ => 0))), (q15, .inl (c15, 12, .inr (.inl (fun _ => 0)))), (q23, .inl (c23, 12, .inr (.inl (fun _ => 0)))), (q40, .inl (c40, 144, .inr (.inl (fun _ => 0)))), (q48, .inl (c48, 12, .inr (.inl (fun _ => 0)))), (q31, .inl (c31, 12, .inr (.inl g)))] := hD
  exact W.vret hx hb hr (fun t ht hW => ⟨⟨(), rfl, trivial, q7, q15, q23, q40, q48, q31, c7, c15, c23, c31, c40, c48, g, hw, by rw [ht]; exact hP, va_K.moved hW.alike hK, hD⟩, hS.F ht⟩) hS.2.2 d_Ge_init_66
