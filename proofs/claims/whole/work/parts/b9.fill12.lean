theorem fill_step {g : Nat → Int64} {i k : Nat} (hg : ∀ j, j < i → g j = 1) (hk : k = i) : ∀ j, j < i + 1 → (fun j => if j = k then (1 : Int64) else g j) j = 1 := by
  intro j hj
  show (if j = k then (1 : Int64) else g j) = 1
  by_cases e : j = k
  · rw [if_pos e]
  · rw [if_neg e]; exact hg j (by omega)
/-! a row of 12 is filled with 1 -/
set_option maxHeartbeats 8000000 in
set_option maxRecDepth 100000 in
theorem c_fill (l : Launch) (D : va_G) (q sz : Nat) (cA : ClassId) (f : Nat → Int64) : Met l y_Jarr_fill_aJJ.1 [Cond.code y_Jarr_fill_aJJ.1 y_Jarr_fill_aJJ.2.1 y_Jarr_fill_aJJ.2.2.1 y_Jarr_fill_aJJ.2.2.2.1] (rmOf y_Jarr_fill_aJJ) (va_Pc [.ref q, .long 1] (fun U => U.heap.size = sz ∧ va_P D classes [(q, .inl (cA, 12, .inr (.inl f)))] U.heap ∧ va_K D classes [(cA, .long)] U ∧ va_D (fun _ => True) [(q, .inl (cA, 12, .inr (.inl f)))])) (va_Qv (fun g : Nat → Int64 => ∀ j, j < 12 → g j = 1) (fun g t => va_P D classes [(q, .inl (cA, 12, .inr (.inl g)))] t.heap ∧ va_K D classes [(cA, .long)] t ∧ va_D (va_A [(q, .inl (cA, 12, .inr (.inl f)))] sz) [(q, .inl (cA, 12, .inr (.inl g)))]) (va_A [(q, .inl (cA, 12, .inr (.inl f)))] sz)) 0 0 (va_A [(q, .inl (cA, 12, .inr (.inl f)))] sz) := by
  refine Met_ofWF (cc := y_Jarr_fill_aJJ.2.1) (maxL := 5) (ret := none) (by decide +kernel) rfl ?_
  intro p e s m args0 below meth c s₁ B hml hv
  obtain ⟨rfl, hsz, hP, hK, hD0⟩ := hv
  have hx := B.exec
  have hb := B.bytes
  have hr := B.returns
  subst hsz
  have hD := hD0.self (sz := s.heap.size)
  generalize hAe : va_A [(q, .inl (cA, 12, .inr (.inl f)))] s.heap.size = A at hD ⊢
  have hS : va_S A s.heap s.heap [] := va_S.rf
  have hl := lv_entry ([.ref q, .long 1]) (n := 5) (Nat.le_of_ble_eq_true rfl)
  rw [lg_entry_eq]
  generalize (lg_sl ([.ref q, .long 1]) ++ List.replicate (5 - (lg_sl ([.ref q, .long 1])).length) Slot.unset).toArray = ls at hl ⊢
  have hl : lv_has ls 5 [(0, .ref q), (1, .long 1)] := hl
  refine lv_iconst (v := 0) hx hb d_Jarr_fill_aJJ_0 rfl ?_
  refine lv_istore_n (lv' := [(3, .int 0), (0, .ref q), (1, .long 1)]) hx hb d_Jarr_fill_aJJ_1 rfl hl (by decide) rfl (fun ls hl => ?_)
  refine lv_aload_n hx hb d_Jarr_fill_aJJ_2 rfl (lv_at hl 1 rfl) ?_
  refine va_alen hx hb hK hP 0 0 rfl rfl (v := 12) rfl d_Jarr_fill_aJJ_3 ?_
  refine lv_istore (lv' := [(4, .int 12), (3, .int 0), (0, .ref q), (1, .long 1)]) hx hb d_Jarr_fill_aJJ_4 hl (by decide) rfl (fun ls hl => ?_)
  refine lv_iload_n hx hb d_Jarr_fill_aJJ_6 rfl (lv_at hl 1 rfl) ?_
  refine lv_iload hx hb d_Jarr_fill_aJJ_7 (lv_at hl 0 rfl) ?_
  refine lv_icmp_ge (tgt := 22) hx hb d_Jarr_fill_aJJ_9 (by decide) (fun h => absurd h (by decide)) (fun _ => ?_)
  refine lv_aload_n hx hb d_Jarr_fill_aJJ_12 rfl (lv_at hl 2 rfl) ?_
  refine lv_iload_n hx hb d_Jarr_fill_aJJ_13 rfl (lv_at hl 1 rfl) ?_
  refine lv_lload_n hx hb d_Jarr_fill_aJJ_14 rfl (lv_at hl 3 rfl) ?_
  refine va_last hx hb hK hP hD hS 0 0 rfl rfl (show vp_in 0 12 by unfold vp_in; decide) d_Jarr_fill_aJJ_15 (fun H locs hP hD hS => ?_)
  obtain ⟨g, hP, hD, hg⟩ : ∃ g : Nat → Int64, va_P D classes [(q, .inl (cA, 12, .inr (.inl g)))] H ∧ va_D A [(q, .inl (cA, 12, .inr (.inl g)))] ∧ ∀ j, j < 1 → g j = 1 := ⟨_, hP, hD, fun j hj => if_pos (by have : j = 0 := (by omega); subst this; decide)⟩
  refine lv_iinc (v := 1) (lv' := [(3, .int 1), (4, .int 12), (0, .ref q), (1, .long 1)]) hx hb d_Jarr_fill_aJJ_16 hl (k := 1) rfl (by decide) (by decide) rfl (fun ls hl => ?_)
  refine lv_goto (tgt := 6) hx hb d_Jarr_fill_aJJ_19 (by decide) ?_
  refine lv_iload_n hx hb d_Jarr_fill_aJJ_6 rfl (lv_at hl 0 rfl) ?_
  refine lv_iload hx hb d_Jarr_fill_aJJ_7 (lv_at hl 1 rfl) ?_
  refine lv_icmp_ge (tgt := 22) hx hb d_Jarr_fill_aJJ_9 (by decide) (fun h => absurd h (by decide)) (fun _ => ?_)
  refine lv_aload_n hx hb d_Jarr_fill_aJJ_12 rfl (lv_at hl 2 rfl) ?_
  refine lv_iload_n hx hb d_Jarr_fill_aJJ_13 rfl (lv_at hl 0 rfl) ?_
  refine lv_lload_n hx hb d_Jarr_fill_aJJ_14 rfl (lv_at hl 3 rfl) ?_
  refine va_last hx hb hK hP hD hS 0 0 rfl rfl (show vp_in 1 12 by unfold vp_in; decide) d_Jarr_fill_aJJ_15 (fun H locs hP hD hS => ?_)
  obtain ⟨g, hP, hD, hg⟩ : ∃ g : Nat → Int64, va_P D classes [(q, .inl (cA, 12, .inr (.inl g)))] H ∧ va_D A [(q, .inl (cA, 12, .inr (.inl g)))] ∧ ∀ j, j < 2 → g j = 1 := ⟨_, hP, hD, fun j hj => fill_step hg (by decide) j hj⟩
  refine lv_iinc (v := 2) (lv' := [(3, .int 2), (4, .int 12), (0, .ref q), (1, .long 1)]) hx hb d_Jarr_fill_aJJ_16 hl (k := 0) rfl (by decide) (by decide) rfl (fun ls hl => ?_)
  refine lv_goto (tgt := 6) hx hb d_Jarr_fill_aJJ_19 (by decide) ?_
  refine lv_iload_n hx hb d_Jarr_fill_aJJ_6 rfl (lv_at hl 0 rfl) ?_
  refine lv_iload hx hb d_Jarr_fill_aJJ_7 (lv_at hl 1 rfl) ?_
  refine lv_icmp_ge (tgt := 22) hx hb d_Jarr_fill_aJJ_9 (by decide) (fun h => absurd h (by decide)) (fun _ => ?_)
  refine lv_aload_n hx hb d_Jarr_fill_aJJ_12 rfl (lv_at hl 2 rfl) ?_
  refine lv_iload_n hx hb d_Jarr_fill_aJJ_13 rfl (lv_at hl 0 rfl) ?_
  refine lv_lload_n hx hb d_Jarr_fill_aJJ_14 rfl (lv_at hl 3 rfl) ?_
  refine va_last hx hb hK hP hD hS 0 0 rfl rfl (show vp_in 2 12 by unfold vp_in; decide) d_Jarr_fill_aJJ_15 (fun H locs hP hD hS => ?_)
  obtain ⟨g, hP, hD, hg⟩ : ∃ g : Nat → Int64, va_P D classes [(q, .inl (cA, 12, .inr (.inl g)))] H ∧ va_D A [(q, .inl (cA, 12, .inr (.inl g)))] ∧ ∀ j, j < 3 → g j = 1 := ⟨_, hP, hD, fun j hj => fill_step hg (by decide) j hj⟩
  refine lv_iinc (v := 3) (lv' := [(3, .int 3), (4, .int 12), (0, .ref q), (1, .long 1)]) hx hb d_Jarr_fill_aJJ_16 hl (k := 0) rfl (by decide) (by decide) rfl (fun ls hl => ?_)
  refine lv_goto (tgt := 6) hx hb d_Jarr_fill_aJJ_19 (by decide) ?_
  refine lv_iload_n hx hb d_Jarr_fill_aJJ_6 rfl (lv_at hl 0 rfl) ?_
  refine lv_iload hx hb d_Jarr_fill_aJJ_7 (lv_at hl 1 rfl) ?_
  refine lv_icmp_ge (tgt := 22) hx hb d_Jarr_fill_aJJ_9 (by decide) (fun h => absurd h (by decide)) (fun _ => ?_)
  refine lv_aload_n hx hb d_Jarr_fill_aJJ_12 rfl (lv_at hl 2 rfl) ?_
  refine lv_iload_n hx hb d_Jarr_fill_aJJ_13 rfl (lv_at hl 0 rfl) ?_
  refine lv_lload_n hx hb d_Jarr_fill_aJJ_14 rfl (lv_at hl 3 rfl) ?_
  refine va_last hx hb hK hP hD hS 0 0 rfl rfl (show vp_in 3 12 by unfold vp_in; decide) d_Jarr_fill_aJJ_15 (fun H locs hP hD hS => ?_)
  obtain ⟨g, hP, hD, hg⟩ : ∃ g : Nat → Int64, va_P D classes [(q, .inl (cA, 12, .inr (.inl g)))] H ∧ va_D A [(q, .inl (cA, 12, .inr (.inl g)))] ∧ ∀ j, j < 4 → g j = 1 := ⟨_, hP, hD, fun j hj => fill_step hg (by decide) j hj⟩
  refine lv_iinc (v := 4) (lv' := [(3, .int 4), (4, .int 12), (0, .ref q), (1, .long 1)]) hx hb d_Jarr_fill_aJJ_16 hl (k := 0) rfl (by decide) (by decide) rfl (fun ls hl => ?_)
  refine lv_goto (tgt := 6) hx hb d_Jarr_fill_aJJ_19 (by decide) ?_
  refine lv_iload_n hx hb d_Jarr_fill_aJJ_6 rfl (lv_at hl 0 rfl) ?_
  refine lv_iload hx hb d_Jarr_fill_aJJ_7 (lv_at hl 1 rfl) ?_
  refine lv_icmp_ge (tgt := 22) hx hb d_Jarr_fill_aJJ_9 (by decide) (fun h => absurd h (by decide)) (fun _ => ?_)
  refine lv_aload_n hx hb d_Jarr_fill_aJJ_12 rfl (lv_at hl 2 rfl) ?_
  refine lv_iload_n hx hb d_Jarr_fill_aJJ_13 rfl (lv_at hl 0 rfl) ?_
  refine lv_lload_n hx hb d_Jarr_fill_aJJ_14 rfl (lv_at hl 3 rfl) ?_
  refine va_last hx hb hK hP hD hS 0 0 rfl rfl (show vp_in 4 12 by unfold vp_in; decide) d_Jarr_fill_aJJ_15 (fun H locs hP hD hS => ?_)
  obtain ⟨g, hP, hD, hg⟩ : ∃ g : Nat → Int64, va_P D classes [(q, .inl (cA, 12, .inr (.inl g)))] H ∧ va_D A [(q, .inl (cA, 12, .inr (.inl g)))] ∧ ∀ j, j < 5 → g j = 1 := ⟨_, hP, hD, fun j hj => fill_step hg (by decide) j hj⟩
  refine lv_iinc (v := 5) (lv' := [(3, .int 5), (4, .int 12), (0, .ref q), (1, .long 1)]) hx hb d_Jarr_fill_aJJ_16 hl (k := 0) rfl (by decide) (by decide) rfl (fun ls hl => ?_)
  refine lv_goto (tgt := 6) hx hb d_Jarr_fill_aJJ_19 (by decide) ?_
  refine lv_iload_n hx hb d_Jarr_fill_aJJ_6 rfl (lv_at hl 0 rfl) ?_
  refine lv_iload hx hb d_Jarr_fill_aJJ_7 (lv_at hl 1 rfl) ?_
  refine lv_icmp_ge (tgt := 22) hx hb d_Jarr_fill_aJJ_9 (by decide) (fun h => absurd h (by decide)) (fun _ => ?_)
  refine lv_aload_n hx hb d_Jarr_fill_aJJ_12 rfl (lv_at hl 2 rfl) ?_
  refine lv_iload_n hx hb d_Jarr_fill_aJJ_13 rfl (lv_at hl 0 rfl) ?_
  refine lv_lload_n hx hb d_Jarr_fill_aJJ_14 rfl (lv_at hl 3 rfl) ?_
  refine va_last hx hb hK hP hD hS 0 0 rfl rfl (show vp_in 5 12 by unfold vp_in; decide) d_Jarr_fill_aJJ_15 (fun H locs hP hD hS => ?_)
  obtain ⟨g, hP, hD, hg⟩ : ∃ g : Nat → Int64, va_P D classes [(q, .inl (cA, 12, .inr (.inl g)))] H ∧ va_D A [(q, .inl (cA, 12, .inr (.inl g)))] ∧ ∀ j, j < 6 → g j = 1 := ⟨_, hP, hD, fun j hj => fill_step hg (by decide) j hj⟩
  refine lv_iinc (v := 6) (lv' := [(3, .int 6), (4, .int 12), (0, .ref q), (1, .long 1)]) hx hb d_Jarr_fill_aJJ_16 hl (k := 0) rfl (by decide) (by decide) rfl (fun ls hl => ?_)
  refine lv_goto (tgt := 6) hx hb d_Jarr_fill_aJJ_19 (by decide) ?_
  refine lv_iload_n hx hb d_Jarr_fill_aJJ_6 rfl (lv_at hl 0 rfl) ?_
  refine lv_iload hx hb d_Jarr_fill_aJJ_7 (lv_at hl 1 rfl) ?_
  refine lv_icmp_ge (tgt := 22) hx hb d_Jarr_fill_aJJ_9 (by decide) (fun h => absurd h (by decide)) (fun _ => ?_)
  refine lv_aload_n hx hb d_Jarr_fill_aJJ_12 rfl (lv_at hl 2 rfl) ?_
  refine lv_iload_n hx hb d_Jarr_fill_aJJ_13 rfl (lv_at hl 0 rfl) ?_
  refine lv_lload_n hx hb d_Jarr_fill_aJJ_14 rfl (lv_at hl 3 rfl) ?_
  refine va_last hx hb hK hP hD hS 0 0 rfl rfl (show vp_in 6 12 by unfold vp_in; decide) d_Jarr_fill_aJJ_15 (fun H locs hP hD hS => ?_)
  obtain ⟨g, hP, hD, hg⟩ : ∃ g : Nat → Int64, va_P D classes [(q, .inl (cA, 12, .inr (.inl g)))] H ∧ va_D A [(q, .inl (cA, 12, .inr (.inl g)))] ∧ ∀ j, j < 7 → g j = 1 := ⟨_, hP, hD, fun j hj => fill_step hg (by decide) j hj⟩
  refine lv_iinc (v := 7) (lv' := [(3, .int 7), (4, .int 12), (0, .ref q), (1, .long 1)]) hx hb d_Jarr_fill_aJJ_16 hl (k := 0) rfl (by decide) (by decide) rfl (fun ls hl => ?_)
  refine lv_goto (tgt := 6) hx hb d_Jarr_fill_aJJ_19 (by decide) ?_
  refine lv_iload_n hx hb d_Jarr_fill_aJJ_6 rfl (lv_at hl 0 rfl) ?_
  refine lv_iload hx hb d_Jarr_fill_aJJ_7 (lv_at hl 1 rfl) ?_
  refine lv_icmp_ge (tgt := 22) hx hb d_Jarr_fill_aJJ_9 (by decide) (fun h => absurd h (by decide)) (fun _ => ?_)
  refine lv_aload_n hx hb d_Jarr_fill_aJJ_12 rfl (lv_at hl 2 rfl) ?_
  refine lv_iload_n hx hb d_Jarr_fill_aJJ_13 rfl (lv_at hl 0 rfl) ?_
  refine lv_lload_n hx hb d_Jarr_fill_aJJ_14 rfl (lv_at hl 3 rfl) ?_
  refine va_last hx hb hK hP hD hS 0 0 rfl rfl (show vp_in 7 12 by unfold vp_in; decide) d_Jarr_fill_aJJ_15 (fun H locs hP hD hS => ?_)
  obtain ⟨g, hP, hD, hg⟩ : ∃ g : Nat → Int64, va_P D classes [(q, .inl (cA, 12, .inr (.inl g)))] H ∧ va_D A [(q, .inl (cA, 12, .inr (.inl g)))] ∧ ∀ j, j < 8 → g j = 1 := ⟨_, hP, hD, fun j hj => fill_step hg (by decide) j hj⟩
  refine lv_iinc (v := 8) (lv' := [(3, .int 8), (4, .int 12), (0, .ref q), (1, .long 1)]) hx hb d_Jarr_fill_aJJ_16 hl (k := 0) rfl (by decide) (by decide) rfl (fun ls hl => ?_)
  refine lv_goto (tgt := 6) hx hb d_Jarr_fill_aJJ_19 (by decide) ?_
  refine lv_iload_n hx hb d_Jarr_fill_aJJ_6 rfl (lv_at hl 0 rfl) ?_
  refine lv_iload hx hb d_Jarr_fill_aJJ_7 (lv_at hl 1 rfl) ?_
  refine lv_icmp_ge (tgt := 22) hx hb d_Jarr_fill_aJJ_9 (by decide) (fun h => absurd h (by decide)) (fun _ => ?_)
  refine lv_aload_n hx hb d_Jarr_fill_aJJ_12 rfl (lv_at hl 2 rfl) ?_
  refine lv_iload_n hx hb d_Jarr_fill_aJJ_13 rfl (lv_at hl 0 rfl) ?_
  refine lv_lload_n hx hb d_Jarr_fill_aJJ_14 rfl (lv_at hl 3 rfl) ?_
  refine va_last hx hb hK hP hD hS 0 0 rfl rfl (show vp_in 8 12 by unfold vp_in; decide) d_Jarr_fill_aJJ_15 (fun H locs hP hD hS => ?_)
  obtain ⟨g, hP, hD, hg⟩ : ∃ g : Nat → Int64, va_P D classes [(q, .inl (cA, 12, .inr (.inl g)))] H ∧ va_D A [(q, .inl (cA, 12, .inr (.inl g)))] ∧ ∀ j, j < 9 → g j = 1 := ⟨_, hP, hD, fun j hj => fill_step hg (by decide) j hj⟩
  refine lv_iinc (v := 9) (lv' := [(3, .int 9), (4, .int 12), (0, .ref q), (1, .long 1)]) hx hb d_Jarr_fill_aJJ_16 hl (k := 0) rfl (by decide) (by decide) rfl (fun ls hl => ?_)
  refine lv_goto (tgt := 6) hx hb d_Jarr_fill_aJJ_19 (by decide) ?_
  refine lv_iload_n hx hb d_Jarr_fill_aJJ_6 rfl (lv_at hl 0 rfl) ?_
  refine lv_iload hx hb d_Jarr_fill_aJJ_7 (lv_at hl 1 rfl) ?_
  refine lv_icmp_ge (tgt := 22) hx hb d_Jarr_fill_aJJ_9 (by decide) (fun h => absurd h (by decide)) (fun _ => ?_)
  refine lv_aload_n hx hb d_Jarr_fill_aJJ_12 rfl (lv_at hl 2 rfl) ?_
  refine lv_iload_n hx hb d_Jarr_fill_aJJ_13 rfl (lv_at hl 0 rfl) ?_
  refine lv_lload_n hx hb d_Jarr_fill_aJJ_14 rfl (lv_at hl 3 rfl) ?_
  refine va_last hx hb hK hP hD hS 0 0 rfl rfl (show vp_in 9 12 by unfold vp_in; decide) d_Jarr_fill_aJJ_15 (fun H locs hP hD hS => ?_)
  obtain ⟨g, hP, hD, hg⟩ : ∃ g : Nat → Int64, va_P D classes [(q, .inl (cA, 12, .inr (.inl g)))] H ∧ va_D A [(q, .inl (cA, 12, .inr (.inl g)))] ∧ ∀ j, j < 10 → g j = 1 := ⟨_, hP, hD, fun j hj => fill_step hg (by decide) j hj⟩
  refine lv_iinc (v := 10) (lv' := [(3, .int 10), (4, .int 12), (0, .ref q), (1, .long 1)]) hx hb d_Jarr_fill_aJJ_16 hl (k := 0) rfl (by decide) (by decide) rfl (fun ls hl => ?_)
  refine lv_goto (tgt := 6) hx hb d_Jarr_fill_aJJ_19 (by decide) ?_
  refine lv_iload_n hx hb d_Jarr_fill_aJJ_6 rfl (lv_at hl 0 rfl) ?_
  refine lv_iload hx hb d_Jarr_fill_aJJ_7 (lv_at hl 1 rfl) ?_
  refine lv_icmp_ge (tgt := 22) hx hb d_Jarr_fill_aJJ_9 (by decide) (fun h => absurd h (by decide)) (fun _ => ?_)
  refine lv_aload_n hx hb d_Jarr_fill_aJJ_12 rfl (lv_at hl 2 rfl) ?_
  refine lv_iload_n hx hb d_Jarr_fill_aJJ_13 rfl (lv_at hl 0 rfl) ?_
  refine lv_lload_n hx hb d_Jarr_fill_aJJ_14 rfl (lv_at hl 3 rfl) ?_
  refine va_last hx hb hK hP hD hS 0 0 rfl rfl (show vp_in 10 12 by unfold vp_in; decide) d_Jarr_fill_aJJ_15 (fun H locs hP hD hS => ?_)
  obtain ⟨g, hP, hD, hg⟩ : ∃ g : Nat → Int64, va_P D classes [(q, .inl (cA, 12, .inr (.inl g)))] H ∧ va_D A [(q, .inl (cA, 12, .inr (.inl g)))] ∧ ∀ j, j < 11 → g j = 1 := ⟨_, hP, hD, fun j hj => fill_step hg (by decide) j hj⟩
  refine lv_iinc (v := 11) (lv' := [(3, .int 11), (4, .int 12), (0, .ref q), (1, .long 1)]) hx hb d_Jarr_fill_aJJ_16 hl (k := 0) rfl (by decide) (by decide) rfl (fun ls hl => ?_)
  refine lv_goto (tgt := 6) hx hb d_Jarr_fill_aJJ_19 (by decide) ?_
  refine lv_iload_n hx hb d_Jarr_fill_aJJ_6 rfl (lv_at hl 0 rfl) ?_
  refine lv_iload hx hb d_Jarr_fill_aJJ_7 (lv_at hl 1 rfl) ?_
  refine lv_icmp_ge (tgt := 22) hx hb d_Jarr_fill_aJJ_9 (by decide) (fun h => absurd h (by decide)) (fun _ => ?_)
  refine lv_aload_n hx hb d_Jarr_fill_aJJ_12 rfl (lv_at hl 2 rfl) ?_
  refine lv_iload_n hx hb d_Jarr_fill_aJJ_13 rfl (lv_at hl 0 rfl) ?_
  refine lv_lload_n hx hb d_Jarr_fill_aJJ_14 rfl (lv_at hl 3 rfl) ?_
  refine va_last hx hb hK hP hD hS 0 0 rfl rfl (show vp_in 11 12 by unfold vp_in; decide) d_Jarr_fill_aJJ_15 (fun H locs hP hD hS => ?_)
  obtain ⟨g, hP, hD, hg⟩ : ∃ g : Nat → Int64, va_P D classes [(q, .inl (cA, 12, .inr (.inl g)))] H ∧ va_D A [(q, .inl (cA, 12, .inr (.inl g)))] ∧ ∀ j, j < 12 → g j = 1 := ⟨_, hP, hD, fun j hj => fill_step hg (by decide) j hj⟩
  refine lv_iinc (v := 12) (lv' := [(3, .int 12), (4, .int 12), (0, .ref q), (1, .long 1)]) hx hb d_Jarr_fill_aJJ_16 hl (k := 0) rfl (by decide) (by decide) rfl (fun ls hl => ?_)
  refine lv_goto (tgt := 6) hx hb d_Jarr_fill_aJJ_19 (by decide) ?_
  refine lv_iload_n hx hb d_Jarr_fill_aJJ_6 rfl (lv_at hl 0 rfl) ?_
  refine lv_iload hx hb d_Jarr_fill_aJJ_7 (lv_at hl 1 rfl) ?_
  refine lv_icmp_ge (tgt := 22) hx hb d_Jarr_fill_aJJ_9 (by decide) (fun _ => ?_) (fun h => absurd (by decide) h)
  exact W.vret hx hb hr (fun t ht hW => ⟨⟨g, rfl, hg, by rw [ht]; exact hP, va_K.moved hW.alike hK, hD⟩, hS.F ht⟩) hS.2.2 d_Jarr_fill_aJJ_22
