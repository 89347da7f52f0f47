/-! THE ROWS: an instruction, a row -/
section RULES
variable {Y : Ly} {y : Mt} {pc q : Nat} {ls st : List PV} {μ : Mem} {Q : PV → Mem → Prop}
theorem W_st {p : Program} {l : Launch} {e : Env} {R : Room} {s : State} {m : MethodId} {args : Array Value} {below : List Frame} {meth : Method} {c : Code} {H : Heap} {locs : List Loc} {cells slots : Nat} {QQ : State → Prop} {la : Array Slot} {a b : List Value} (h : a = b) (k : W p l e R s m args below meth c H locs cells slots QQ (F0 m pc la b)) : W p l e R s m args below meth c H locs cells slots QQ (F0 m pc la a) := h ▸ k
theorem Rj_iconst {n : Int} (hd : decode y.2.1 pc = .ok (.iconst n, 1)) (hq : pc + 1 = q)  (k : Rj Y y q ls (vI n :: st) μ Q) : Rj Y y pc ls (st) μ Q := by
  subst hq
  intro l p e s m args below meth c G H locs la hC hP hS hl
  obtain ⟨hx, hb, hr, hml, hown, hlk, hSW⟩ := id hC
  exact lv_iconst hx hb hd rfl (k l p e s m args below meth c G H locs la hC hP hS hl)
theorem Rj_bipush {n : Int} (hd : decode y.2.1 pc = .ok (.bipush n, 2)) (hq : pc + 2 = q) (hn : (Int8.ofInt n).toInt32 = Int32.ofInt n) (k : Rj Y y q ls (vI n :: st) μ Q) : Rj Y y pc ls (st) μ Q := by
  subst hq
  intro l p e s m args below meth c G H locs la hC hP hS hl
  obtain ⟨hx, hb, hr, hml, hown, hlk, hSW⟩ := id hC
  exact lv_bipush hx hb hd hn (k l p e s m args below meth c G H locs la hC hP hS hl)
theorem Rj_sipush {n : Int} (hd : decode y.2.1 pc = .ok (.sipush n, 3)) (hq : pc + 3 = q) (hn : (Int16.ofInt n).toInt32 = Int32.ofInt n) (k : Rj Y y q ls (vI n :: st) μ Q) : Rj Y y pc ls (st) μ Q := by
  subst hq
  intro l p e s m args below meth c G H locs la hC hP hS hl
  obtain ⟨hx, hb, hr, hml, hown, hlk, hSW⟩ := id hC
  exact lv_sipush hx hb hd hn (k l p e s m args below meth c G H locs la hC hP hS hl)
theorem Rj_lconst {n : Fin 2} {z : Int} (hd : decode y.2.1 pc = .ok (.lconst n, 1)) (hq : pc + 1 = q) (hz : Int64.ofNat (n : Nat) = Int64.ofInt z) (k : Rj Y y q ls (vL z :: st) μ Q) : Rj Y y pc ls (st) μ Q := by
  subst hq
  intro l p e s m args below meth c G H locs la hC hP hS hl
  obtain ⟨hx, hb, hr, hml, hown, hlk, hSW⟩ := id hC
  exact lv_lconst hx hb hd hz (k l p e s m args below meth c G H locs la hC hP hS hl)
theorem Rj_ldc {i : Nat} {z : Int} (hc : Cond.constant y.1.cls i (Int32.ofInt z) ∈ lw_tbl) (hd : decode y.2.1 pc = .ok (.ldc i, 2)) (hq : pc + 2 = q) (k : Rj Y y q ls (vI z :: st) μ Q) : Rj Y y pc ls (st) μ Q := by
  subst hq
  intro l p e s m args below meth c G H locs la hC hP hS hl
  obtain ⟨hx, hb, hr, hml, hown, hlk, hSW⟩ := id hC
  exact lv_ldc hx hb hown (hSW.1 _ hc rfl _) hd (k l p e s m args below meth c G H locs la hC hP hS hl)
theorem Rj_ldcw {i : Nat} {z : Int} (hc : Cond.constant y.1.cls i (Int32.ofInt z) ∈ lw_tbl) (hd : decode y.2.1 pc = .ok (.ldc_w i, 3)) (hq : pc + 3 = q) (k : Rj Y y q ls (vI z :: st) μ Q) : Rj Y y pc ls (st) μ Q := by
  subst hq
  intro l p e s m args below meth c G H locs la hC hP hS hl
  obtain ⟨hx, hb, hr, hml, hown, hlk, hSW⟩ := id hC
  exact lv_ldcw hx hb hown (hSW.1 _ hc rfl _) hd (k l p e s m args below meth c G H locs la hC hP hS hl)
theorem Rj_ldc2 {i : Nat} {z : Int} (hc : Cond.constantLong y.1.cls i (Int64.ofInt z) ∈ lw_tbl) (hd : decode y.2.1 pc = .ok (.ldc2_w i, 3)) (hq : pc + 3 = q) (k : Rj Y y q ls (vL z :: st) μ Q) : Rj Y y pc ls (st) μ Q := by
  subst hq
  intro l p e s m args below meth c G H locs la hC hP hS hl
  obtain ⟨hx, hb, hr, hml, hown, hlk, hSW⟩ := id hC
  exact lv_ldc2 hx hb hown (hSW.1 _ hc rfl _) hd (k l p e s m args below meth c G H locs la hC hP hS hl)
theorem Rj_iload_n {j : Fin 4} {i : Nat} {z : Int} (hd : decode y.2.1 pc = .ok (.iload_n j, 1)) (hq : pc + 1 = q) (hi : (j : Nat) = i) (hz : ls[i]? = some (vI z)) (k : Rj Y y q ls (vI z :: st) μ Q) : Rj Y y pc ls (st) μ Q := by
  subst hq
  intro l p e s m args below meth c G H locs la hC hP hS hl
  obtain ⟨hx, hb, hr, hml, hown, hlk, hSW⟩ := id hC
  exact lv_iload_n hx hb hd hi (toL_at hl hz (Nat.noConfusion)) (k l p e s m args below meth c G H locs la hC hP hS hl)
theorem Rj_iload {i : Nat} {z : Int} (hd : decode y.2.1 pc = .ok (.iload i, 2)) (hq : pc + 2 = q) (hz : ls[i]? = some (vI z)) (k : Rj Y y q ls (vI z :: st) μ Q) : Rj Y y pc ls (st) μ Q := by
  subst hq
  intro l p e s m args below meth c G H locs la hC hP hS hl
  obtain ⟨hx, hb, hr, hml, hown, hlk, hSW⟩ := id hC
  exact lv_iload hx hb hd (toL_at hl hz (Nat.noConfusion)) (k l p e s m args below meth c G H locs la hC hP hS hl)
theorem Rj_lload_n {j : Fin 4} {i : Nat} {z : Int} (hd : decode y.2.1 pc = .ok (.lload_n j, 1)) (hq : pc + 1 = q) (hi : (j : Nat) = i) (hz : ls[i]? = some (vL z)) (k : Rj Y y q ls (vL z :: st) μ Q) : Rj Y y pc ls (st) μ Q := by
  subst hq
  intro l p e s m args below meth c G H locs la hC hP hS hl
  obtain ⟨hx, hb, hr, hml, hown, hlk, hSW⟩ := id hC
  exact lv_lload_n hx hb hd hi (toL_at hl hz (Nat.noConfusion)) (k l p e s m args below meth c G H locs la hC hP hS hl)
theorem Rj_lload {i : Nat} {z : Int} (hd : decode y.2.1 pc = .ok (.lload i, 2)) (hq : pc + 2 = q) (hz : ls[i]? = some (vL z)) (k : Rj Y y q ls (vL z :: st) μ Q) : Rj Y y pc ls (st) μ Q := by
  subst hq
  intro l p e s m args below meth c G H locs la hC hP hS hl
  obtain ⟨hx, hb, hr, hml, hown, hlk, hSW⟩ := id hC
  exact lv_lload hx hb hd (toL_at hl hz (Nat.noConfusion)) (k l p e s m args below meth c G H locs la hC hP hS hl)
theorem Rj_aload_n {j : Fin 4} {i : Nat} {z : Int} (hd : decode y.2.1 pc = .ok (.aload_n j, 1)) (hq : pc + 1 = q) (hi : (j : Nat) = i) (hz : ls[i]? = some (vA z)) (k : Rj Y y q ls (vA z :: st) μ Q) : Rj Y y pc ls (st) μ Q := by
  subst hq
  intro l p e s m args below meth c G H locs la hC hP hS hl
  obtain ⟨hx, hb, hr, hml, hown, hlk, hSW⟩ := id hC
  exact lv_aload_n hx hb hd hi (toL_at hl hz (Nat.noConfusion)) (k l p e s m args below meth c G H locs la hC hP hS hl)
theorem Rj_aload {i : Nat} {z : Int} (hd : decode y.2.1 pc = .ok (.aload i, 2)) (hq : pc + 2 = q) (hz : ls[i]? = some (vA z)) (k : Rj Y y q ls (vA z :: st) μ Q) : Rj Y y pc ls (st) μ Q := by
  subst hq
  intro l p e s m args below meth c G H locs la hC hP hS hl
  obtain ⟨hx, hb, hr, hml, hown, hlk, hSW⟩ := id hC
  exact lv_aload hx hb hd (toL_at hl hz (Nat.noConfusion)) (k l p e s m args below meth c G H locs la hC hP hS hl)
theorem Rj_kload_n {j : Fin 4} {i : Nat} {z : Int} (hd : decode y.2.1 pc = .ok (.aload_n j, 1)) (hq : pc + 1 = q) (hi : (j : Nat) = i) (hz : ls[i]? = some (vK z)) (k : Rj Y y q ls (vK z :: st) μ Q) : Rj Y y pc ls (st) μ Q := by
  subst hq
  intro l p e s m args below meth c G H locs la hC hP hS hl
  obtain ⟨hx, hb, hr, hml, hown, hlk, hSW⟩ := id hC
  exact lv_aload_n hx hb hd hi (toL_at hl hz (Nat.noConfusion)) (k l p e s m args below meth c G H locs la hC hP hS hl)
theorem Rj_kload {i : Nat} {z : Int} (hd : decode y.2.1 pc = .ok (.aload i, 2)) (hq : pc + 2 = q) (hz : ls[i]? = some (vK z)) (k : Rj Y y q ls (vK z :: st) μ Q) : Rj Y y pc ls (st) μ Q := by
  subst hq
  intro l p e s m args below meth c G H locs la hC hP hS hl
  obtain ⟨hx, hb, hr, hml, hown, hlk, hSW⟩ := id hC
  exact lv_aload hx hb hd (toL_at hl hz (Nat.noConfusion)) (k l p e s m args below meth c G H locs la hC hP hS hl)
theorem Rj_istore_n {j : Fin 4} {i : Nat} {z : Int} {ls' : List PV} (hd : decode y.2.1 pc = .ok (.istore_n j, 1)) (hq : pc + 1 = q) (hi : (j : Nat) = i) (hn : i < y.2.2.1) (hs : stI i (vI z) ls = ls') (k : Rj Y y q ls' st μ Q) : Rj Y y pc ls (vI z :: st) μ Q := by
  subst hq
  intro l p e s m args below meth c G H locs la hC hP hS hl
  obtain ⟨hx, hb, hr, hml, hown, hlk, hSW⟩ := id hC
  exact lv_istore_n hx hb hd hi hl hn rfl (fun la2 hl2 => k l p e s m args below meth c G H locs la2 hC hP hS (hs ▸ lh_I rfl hl2))
theorem Rj_istore {i : Nat} {z : Int} {ls' : List PV} (hd : decode y.2.1 pc = .ok (.istore i, 2)) (hq : pc + 2 = q) (hn : i < y.2.2.1) (hs : stI i (vI z) ls = ls') (k : Rj Y y q ls' st μ Q) : Rj Y y pc ls (vI z :: st) μ Q := by
  subst hq
  intro l p e s m args below meth c G H locs la hC hP hS hl
  obtain ⟨hx, hb, hr, hml, hown, hlk, hSW⟩ := id hC
  exact lv_istore hx hb hd hl hn rfl (fun la2 hl2 => k l p e s m args below meth c G H locs la2 hC hP hS (hs ▸ lh_I rfl hl2))
theorem Rj_lstore_n {j : Fin 4} {i : Nat} {z : Int} {ls' : List PV} (hd : decode y.2.1 pc = .ok (.lstore_n j, 1)) (hq : pc + 1 = q) (hi : (j : Nat) = i) (hn : i + 1 < y.2.2.1) (hs : stL i (vL z) ls = ls') (k : Rj Y y q ls' st μ Q) : Rj Y y pc ls (vL z :: st) μ Q := by
  subst hq
  intro l p e s m args below meth c G H locs la hC hP hS hl
  obtain ⟨hx, hb, hr, hml, hown, hlk, hSW⟩ := id hC
  exact lv_lstore_n hx hb hd hi hl hn rfl (fun la2 hl2 => k l p e s m args below meth c G H locs la2 hC hP hS (hs ▸ lh_L rfl hl2))
theorem Rj_lstore {i : Nat} {z : Int} {ls' : List PV} (hd : decode y.2.1 pc = .ok (.lstore i, 2)) (hq : pc + 2 = q) (hn : i + 1 < y.2.2.1) (hs : stL i (vL z) ls = ls') (k : Rj Y y q ls' st μ Q) : Rj Y y pc ls (vL z :: st) μ Q := by
  subst hq
  intro l p e s m args below meth c G H locs la hC hP hS hl
  obtain ⟨hx, hb, hr, hml, hown, hlk, hSW⟩ := id hC
  exact lv_lstore hx hb hd hl hn rfl (fun la2 hl2 => k l p e s m args below meth c G H locs la2 hC hP hS (hs ▸ lh_L rfl hl2))
theorem Rj_astore_n {j : Fin 4} {i : Nat} {z : Int} {ls' : List PV} (hd : decode y.2.1 pc = .ok (.astore_n j, 1)) (hq : pc + 1 = q) (hi : (j : Nat) = i) (hn : i < y.2.2.1) (hs : stI i (vA z) ls = ls') (k : Rj Y y q ls' st μ Q) : Rj Y y pc ls (vA z :: st) μ Q := by
  subst hq
  intro l p e s m args below meth c G H locs la hC hP hS hl
  obtain ⟨hx, hb, hr, hml, hown, hlk, hSW⟩ := id hC
  exact lv_astore_n hx hb hd hi hl hn rfl (fun la2 hl2 => k l p e s m args below meth c G H locs la2 hC hP hS (hs ▸ lh_I rfl hl2))
theorem Rj_astore {i : Nat} {z : Int} {ls' : List PV} (hd : decode y.2.1 pc = .ok (.astore i, 2)) (hq : pc + 2 = q) (hn : i < y.2.2.1) (hs : stI i (vA z) ls = ls') (k : Rj Y y q ls' st μ Q) : Rj Y y pc ls (vA z :: st) μ Q := by
  subst hq
  intro l p e s m args below meth c G H locs la hC hP hS hl
  obtain ⟨hx, hb, hr, hml, hown, hlk, hSW⟩ := id hC
  exact lv_astore hx hb hd hl hn rfl (fun la2 hl2 => k l p e s m args below meth c G H locs la2 hC hP hS (hs ▸ lh_I rfl hl2))
theorem Rj_kstore_n {j : Fin 4} {i : Nat} {z : Int} {ls' : List PV} (hd : decode y.2.1 pc = .ok (.astore_n j, 1)) (hq : pc + 1 = q) (hi : (j : Nat) = i) (hn : i < y.2.2.1) (hs : stI i (vK z) ls = ls') (k : Rj Y y q ls' st μ Q) : Rj Y y pc ls (vK z :: st) μ Q := by
  subst hq
  intro l p e s m args below meth c G H locs la hC hP hS hl
  obtain ⟨hx, hb, hr, hml, hown, hlk, hSW⟩ := id hC
  exact lv_astore_n hx hb hd hi hl hn rfl (fun la2 hl2 => k l p e s m args below meth c G H locs la2 hC hP hS (hs ▸ lh_I rfl hl2))
theorem Rj_kstore {i : Nat} {z : Int} {ls' : List PV} (hd : decode y.2.1 pc = .ok (.astore i, 2)) (hq : pc + 2 = q) (hn : i < y.2.2.1) (hs : stI i (vK z) ls = ls') (k : Rj Y y q ls' st μ Q) : Rj Y y pc ls (vK z :: st) μ Q := by
  subst hq
  intro l p e s m args below meth c G H locs la hC hP hS hl
  obtain ⟨hx, hb, hr, hml, hown, hlk, hSW⟩ := id hC
  exact lv_astore hx hb hd hl hn rfl (fun la2 hl2 => k l p e s m args below meth c G H locs la2 hC hP hS (hs ▸ lh_I rfl hl2))
theorem toL_place {G : Gd} {ls : List PV} {i : Nat} {v : PV} (h : ls[i]? = some v) (hv : v.1 ≠ 0) : ∃ k : Nat, (toL G ls)[k]? = some (i, pv G v) :=
  List.getElem?_of_mem (toL_mem.mpr ⟨v, h, hv, rfl⟩)
theorem Rj_iinc {i : Nat} {n z : Int} {ls' : List PV} (hd : decode y.2.1 pc = .ok (.iinc i n, 3)) (hq : pc + 3 = q) (hz : ls[i]? = some (vI z)) (hn : i < y.2.2.1) (hs : stI i (vI (z + n)) ls = ls') (k : Rj Y y q ls' st μ Q) : Rj Y y pc ls (st) μ Q := by
  subst hq
  intro l p e s m args below meth c G H locs la hC hP hS hl
  obtain ⟨hx, hb, hr, hml, hown, hlk, hSW⟩ := id hC
  obtain ⟨kk, hk⟩ := toL_place (G := G) hz (Nat.noConfusion)
  exact lv_iinc hx hb hd hl hk (Int32.ofInt_add z n).symm hn rfl (fun la2 hl2 => k l p e s m args below meth c G H locs la2 hC hP hS (hs ▸ lh_I rfl hl2))
theorem Rj_iadd {a b : Int} (hd : decode y.2.1 pc = .ok (.iadd, 1)) (hq : pc + 1 = q) (k : Rj Y y q ls (vI (a + b) :: st) μ Q) : Rj Y y pc ls (vI b :: vI a :: st) μ Q := by
  subst hq
  intro l p e s m args below meth c G H locs la hC hP hS hl
  obtain ⟨hx, hb, hr, hml, hown, hlk, hSW⟩ := id hC
  refine lv_iadd hx hb hd ?_
  rw [← Int32.ofInt_add]
  exact k l p e s m args below meth c G H locs la hC hP hS hl
theorem Rj_isub {a b : Int} (hd : decode y.2.1 pc = .ok (.isub, 1)) (hq : pc + 1 = q) (k : Rj Y y q ls (vI (a - b) :: st) μ Q) : Rj Y y pc ls (vI b :: vI a :: st) μ Q := by
  subst hq
  intro l p e s m args below meth c G H locs la hC hP hS hl
  obtain ⟨hx, hb, hr, hml, hown, hlk, hSW⟩ := id hC
  refine lv_isub hx hb hd ?_
  rw [← Int32.ofInt_sub]
  exact k l p e s m args below meth c G H locs la hC hP hS hl
theorem Rj_imul {a b : Int} (hd : decode y.2.1 pc = .ok (.imul, 1)) (hq : pc + 1 = q) (k : Rj Y y q ls (vI (a * b) :: st) μ Q) : Rj Y y pc ls (vI b :: vI a :: st) μ Q := by
  subst hq
  intro l p e s m args below meth c G H locs la hC hP hS hl
  obtain ⟨hx, hb, hr, hml, hown, hlk, hSW⟩ := id hC
  refine lv_imul hx hb hd ?_
  rw [← Int32.ofInt_mul]
  exact k l p e s m args below meth c G H locs la hC hP hS hl
theorem Rj_ladd {a b : Int} (hd : decode y.2.1 pc = .ok (.ladd, 1)) (hq : pc + 1 = q) (k : Rj Y y q ls (vL (a + b) :: st) μ Q) : Rj Y y pc ls (vL b :: vL a :: st) μ Q := by
  subst hq
  intro l p e s m args below meth c G H locs la hC hP hS hl
  obtain ⟨hx, hb, hr, hml, hown, hlk, hSW⟩ := id hC
  refine lv_ladd hx hb hd ?_
  rw [← Int64.ofInt_add]
  exact k l p e s m args below meth c G H locs la hC hP hS hl
theorem Rj_lsub {a b : Int} (hd : decode y.2.1 pc = .ok (.lsub, 1)) (hq : pc + 1 = q) (k : Rj Y y q ls (vL (a - b) :: st) μ Q) : Rj Y y pc ls (vL b :: vL a :: st) μ Q := by
  subst hq
  intro l p e s m args below meth c G H locs la hC hP hS hl
  obtain ⟨hx, hb, hr, hml, hown, hlk, hSW⟩ := id hC
  refine lv_lsub hx hb hd ?_
  rw [← Int64.ofInt_sub]
  exact k l p e s m args below meth c G H locs la hC hP hS hl
theorem Rj_lmul {a b : Int} (hd : decode y.2.1 pc = .ok (.lmul, 1)) (hq : pc + 1 = q) (k : Rj Y y q ls (vL (a * b) :: st) μ Q) : Rj Y y pc ls (vL b :: vL a :: st) μ Q := by
  subst hq
  intro l p e s m args below meth c G H locs la hC hP hS hl
  obtain ⟨hx, hb, hr, hml, hown, hlk, hSW⟩ := id hC
  refine lv_lmul hx hb hd ?_
  rw [← Int64.ofInt_mul]
  exact k l p e s m args below meth c G H locs la hC hP hS hl
theorem Rj_ineg {a : Int} (hd : decode y.2.1 pc = .ok (.ineg, 1)) (hq : pc + 1 = q) (k : Rj Y y q ls (vI (-a) :: st) μ Q) : Rj Y y pc ls (vI a :: st) μ Q := by
  subst hq
  intro l p e s m args below meth c G H locs la hC hP hS hl
  obtain ⟨hx, hb, hr, hml, hown, hlk, hSW⟩ := id hC
  refine lv_ineg hx hb hd ?_
  rw [← Int32.ofInt_neg]
  exact k l p e s m args below meth c G H locs la hC hP hS hl
theorem Rj_lneg {a : Int} (hd : decode y.2.1 pc = .ok (.lneg, 1)) (hq : pc + 1 = q) (k : Rj Y y q ls (vL (-a) :: st) μ Q) : Rj Y y pc ls (vL a :: st) μ Q := by
  subst hq
  intro l p e s m args below meth c G H locs la hC hP hS hl
  obtain ⟨hx, hb, hr, hml, hown, hlk, hSW⟩ := id hC
  refine lv_lneg hx hb hd ?_
  rw [← Int64.ofInt_neg]
  exact k l p e s m args below meth c G H locs la hC hP hS hl
theorem Rj_idiv {a b : Int} (hd : decode y.2.1 pc = .ok (.idiv, 1)) (hq : pc + 1 = q) (ha : i32 a) (hbb : i32 b) (h0 : b ≠ 0) (k : Rj Y y q ls (vI (a.tdiv b) :: st) μ Q) : Rj Y y pc ls (vI b :: vI a :: st) μ Q := by
  subst hq
  intro l p e s m args below meth c G H locs la hC hP hS hl
  obtain ⟨hx, hb, hr, hml, hown, hlk, hSW⟩ := id hC
  refine lv_idiv hx hb hd (fun h => h0 ((o32_inj hbb (by decide)).mp h)) ?_
  rw [o32_div ha hbb]
  exact k l p e s m args below meth c G H locs la hC hP hS hl
theorem Rj_irem {a b : Int} (hd : decode y.2.1 pc = .ok (.irem, 1)) (hq : pc + 1 = q) (ha : i32 a) (hbb : i32 b) (h0 : b ≠ 0) (k : Rj Y y q ls (vI (a.tmod b) :: st) μ Q) : Rj Y y pc ls (vI b :: vI a :: st) μ Q := by
  subst hq
  intro l p e s m args below meth c G H locs la hC hP hS hl
  obtain ⟨hx, hb, hr, hml, hown, hlk, hSW⟩ := id hC
  refine lv_irem hx hb hd (fun h => h0 ((o32_inj hbb (by decide)).mp h)) ?_
  rw [o32_rem ha hbb]
  exact k l p e s m args below meth c G H locs la hC hP hS hl
theorem Rj_ldiv {a b : Int} (hd : decode y.2.1 pc = .ok (.ldiv, 1)) (hq : pc + 1 = q) (ha : i64 a) (hbb : i64 b) (h0 : b ≠ 0) (k : Rj Y y q ls (vL (a.tdiv b) :: st) μ Q) : Rj Y y pc ls (vL b :: vL a :: st) μ Q := by
  subst hq
  intro l p e s m args below meth c G H locs la hC hP hS hl
  obtain ⟨hx, hb, hr, hml, hown, hlk, hSW⟩ := id hC
  refine lv_ldiv hx hb hd (fun h => h0 ((o64_inj hbb (by decide)).mp h)) ?_
  rw [o64_div ha hbb]
  exact k l p e s m args below meth c G H locs la hC hP hS hl
theorem Rj_lrem {a b : Int} (hd : decode y.2.1 pc = .ok (.lrem, 1)) (hq : pc + 1 = q) (ha : i64 a) (hbb : i64 b) (h0 : b ≠ 0) (k : Rj Y y q ls (vL (a.tmod b) :: st) μ Q) : Rj Y y pc ls (vL b :: vL a :: st) μ Q := by
  subst hq
  intro l p e s m args below meth c G H locs la hC hP hS hl
  obtain ⟨hx, hb, hr, hml, hown, hlk, hSW⟩ := id hC
  refine lv_lrem hx hb hd (fun h => h0 ((o64_inj hbb (by decide)).mp h)) ?_
  rw [o64_rem ha hbb]
  exact k l p e s m args below meth c G H locs la hC hP hS hl
theorem Rj_iand {a b z : Int} (hd : decode y.2.1 pc = .ok (.iand, 1)) (hq : pc + 1 = q) (hz : z_and a b = z) (k : Rj Y y q ls (vI z :: st) μ Q) : Rj Y y pc ls (vI b :: vI a :: st) μ Q := by
  subst hq
  intro l p e s m args below meth c G H locs la hC hP hS hl
  obtain ⟨hx, hb, hr, hml, hown, hlk, hSW⟩ := id hC
  subst hz
  exact lv_iand hx hb hd (W_st (by show _ = Value.int (Int32.ofInt (z_and a b)) :: _; rw [z_and, r32]) (k l p e s m args below meth c G H locs la hC hP hS hl))
theorem Rj_ior {a b z : Int} (hd : decode y.2.1 pc = .ok (.ior, 1)) (hq : pc + 1 = q) (hz : z_or a b = z) (k : Rj Y y q ls (vI z :: st) μ Q) : Rj Y y pc ls (vI b :: vI a :: st) μ Q := by
  subst hq
  intro l p e s m args below meth c G H locs la hC hP hS hl
  obtain ⟨hx, hb, hr, hml, hown, hlk, hSW⟩ := id hC
  subst hz
  exact lv_ior hx hb hd (W_st (by show _ = Value.int (Int32.ofInt (z_or a b)) :: _; rw [z_or, r32]) (k l p e s m args below meth c G H locs la hC hP hS hl))
theorem Rj_ixor {a b z : Int} (hd : decode y.2.1 pc = .ok (.ixor, 1)) (hq : pc + 1 = q) (hz : z_xor a b = z) (k : Rj Y y q ls (vI z :: st) μ Q) : Rj Y y pc ls (vI b :: vI a :: st) μ Q := by
  subst hq
  intro l p e s m args below meth c G H locs la hC hP hS hl
  obtain ⟨hx, hb, hr, hml, hown, hlk, hSW⟩ := id hC
  subst hz
  exact lv_ixor hx hb hd (W_st (by show _ = Value.int (Int32.ofInt (z_xor a b)) :: _; rw [z_xor, r32]) (k l p e s m args below meth c G H locs la hC hP hS hl))
theorem Rj_ishl {a b z : Int} (hd : decode y.2.1 pc = .ok (.ishl, 1)) (hq : pc + 1 = q) (hz : z_shl a b = z) (k : Rj Y y q ls (vI z :: st) μ Q) : Rj Y y pc ls (vI b :: vI a :: st) μ Q := by
  subst hq
  intro l p e s m args below meth c G H locs la hC hP hS hl
  obtain ⟨hx, hb, hr, hml, hown, hlk, hSW⟩ := id hC
  subst hz
  exact lv_ishl hx hb hd (W_st (by show _ = Value.int (Int32.ofInt (z_shl a b)) :: _; rw [z_shl, r32]) (k l p e s m args below meth c G H locs la hC hP hS hl))
theorem Rj_ishr {a b z : Int} (hd : decode y.2.1 pc = .ok (.ishr, 1)) (hq : pc + 1 = q) (hz : z_shr a b = z) (k : Rj Y y q ls (vI z :: st) μ Q) : Rj Y y pc ls (vI b :: vI a :: st) μ Q := by
  subst hq
  intro l p e s m args below meth c G H locs la hC hP hS hl
  obtain ⟨hx, hb, hr, hml, hown, hlk, hSW⟩ := id hC
  subst hz
  exact lv_ishr hx hb hd (W_st (by show _ = Value.int (Int32.ofInt (z_shr a b)) :: _; rw [z_shr, r32]) (k l p e s m args below meth c G H locs la hC hP hS hl))
theorem Rj_iushr {a b z : Int} (hd : decode y.2.1 pc = .ok (.iushr, 1)) (hq : pc + 1 = q) (hz : z_ush a b = z) (k : Rj Y y q ls (vI z :: st) μ Q) : Rj Y y pc ls (vI b :: vI a :: st) μ Q := by
  subst hq
  intro l p e s m args below meth c G H locs la hC hP hS hl
  obtain ⟨hx, hb, hr, hml, hown, hlk, hSW⟩ := id hC
  subst hz
  exact lv_iushr hx hb hd rfl (W_st (by show _ = Value.int (Int32.ofInt (z_ush a b)) :: _; rw [z_ush, r32]) (k l p e s m args below meth c G H locs la hC hP hS hl))
theorem Rj_land {a b z : Int} (hd : decode y.2.1 pc = .ok (.land, 1)) (hq : pc + 1 = q) (hz : zl_and a b = z) (k : Rj Y y q ls (vL z :: st) μ Q) : Rj Y y pc ls (vL b :: vL a :: st) μ Q := by
  subst hq
  intro l p e s m args below meth c G H locs la hC hP hS hl
  obtain ⟨hx, hb, hr, hml, hown, hlk, hSW⟩ := id hC
  subst hz
  exact lv_land hx hb hd (W_st (by show _ = Value.long (Int64.ofInt (zl_and a b)) :: _; rw [zl_and, r64]) (k l p e s m args below meth c G H locs la hC hP hS hl))
theorem Rj_lor {a b z : Int} (hd : decode y.2.1 pc = .ok (.lor, 1)) (hq : pc + 1 = q) (hz : zl_or a b = z) (k : Rj Y y q ls (vL z :: st) μ Q) : Rj Y y pc ls (vL b :: vL a :: st) μ Q := by
  subst hq
  intro l p e s m args below meth c G H locs la hC hP hS hl
  obtain ⟨hx, hb, hr, hml, hown, hlk, hSW⟩ := id hC
  subst hz
  exact lv_lor hx hb hd (W_st (by show _ = Value.long (Int64.ofInt (zl_or a b)) :: _; rw [zl_or, r64]) (k l p e s m args below meth c G H locs la hC hP hS hl))
theorem Rj_lxor {a b z : Int} (hd : decode y.2.1 pc = .ok (.lxor, 1)) (hq : pc + 1 = q) (hz : zl_xor a b = z) (k : Rj Y y q ls (vL z :: st) μ Q) : Rj Y y pc ls (vL b :: vL a :: st) μ Q := by
  subst hq
  intro l p e s m args below meth c G H locs la hC hP hS hl
  obtain ⟨hx, hb, hr, hml, hown, hlk, hSW⟩ := id hC
  subst hz
  exact lv_lxor hx hb hd (W_st (by show _ = Value.long (Int64.ofInt (zl_xor a b)) :: _; rw [zl_xor, r64]) (k l p e s m args below meth c G H locs la hC hP hS hl))
theorem Rj_lshl {a b z : Int} (hd : decode y.2.1 pc = .ok (.lshl, 1)) (hq : pc + 1 = q) (hz : zl_shl a b = z) (k : Rj Y y q ls (vL z :: st) μ Q) : Rj Y y pc ls (vI b :: vL a :: st) μ Q := by
  subst hq
  intro l p e s m args below meth c G H locs la hC hP hS hl
  obtain ⟨hx, hb, hr, hml, hown, hlk, hSW⟩ := id hC
  subst hz
  exact lv_lshl hx hb hd rfl (W_st (by show _ = Value.long (Int64.ofInt (zl_shl a b)) :: _; rw [zl_shl, r64]) (k l p e s m args below meth c G H locs la hC hP hS hl))
theorem Rj_lshr {a b z : Int} (hd : decode y.2.1 pc = .ok (.lshr, 1)) (hq : pc + 1 = q) (hz : zl_shr a b = z) (k : Rj Y y q ls (vL z :: st) μ Q) : Rj Y y pc ls (vI b :: vL a :: st) μ Q := by
  subst hq
  intro l p e s m args below meth c G H locs la hC hP hS hl
  obtain ⟨hx, hb, hr, hml, hown, hlk, hSW⟩ := id hC
  subst hz
  exact lv_lshr hx hb hd rfl (W_st (by show _ = Value.long (Int64.ofInt (zl_shr a b)) :: _; rw [zl_shr, r64]) (k l p e s m args below meth c G H locs la hC hP hS hl))
theorem Rj_lushr {a b z : Int} (hd : decode y.2.1 pc = .ok (.lushr, 1)) (hq : pc + 1 = q) (hz : zl_ush a b = z) (k : Rj Y y q ls (vL z :: st) μ Q) : Rj Y y pc ls (vI b :: vL a :: st) μ Q := by
  subst hq
  intro l p e s m args below meth c G H locs la hC hP hS hl
  obtain ⟨hx, hb, hr, hml, hown, hlk, hSW⟩ := id hC
  subst hz
  exact lv_lushr hx hb hd rfl (W_st (by show _ = Value.long (Int64.ofInt (zl_ush a b)) :: _; rw [zl_ush, r64]) (k l p e s m args below meth c G H locs la hC hP hS hl))
theorem Rj_i2l {a : Int} (hd : decode y.2.1 pc = .ok (.i2l, 1)) (hq : pc + 1 = q) (ha : i32 a) (k : Rj Y y q ls (vL a :: st) μ Q) : Rj Y y pc ls (vI a :: st) μ Q := by
  subst hq
  intro l p e s m args below meth c G H locs la hC hP hS hl
  obtain ⟨hx, hb, hr, hml, hown, hlk, hSW⟩ := id hC
  exact lv_i2l hx hb hd (o32_64 ha) (k l p e s m args below meth c G H locs la hC hP hS hl)
theorem Rj_l2i {a : Int} (hd : decode y.2.1 pc = .ok (.l2i, 1)) (hq : pc + 1 = q) (k : Rj Y y q ls (vI a :: st) μ Q) : Rj Y y pc ls (vL a :: st) μ Q := by
  subst hq
  intro l p e s m args below meth c G H locs la hC hP hS hl
  obtain ⟨hx, hb, hr, hml, hown, hlk, hSW⟩ := id hC
  exact lv_l2i hx hb hd (o64_32 a) (k l p e s m args below meth c G H locs la hC hP hS hl)
theorem Rj_i2b {a z : Int} (hd : decode y.2.1 pc = .ok (.i2b, 1)) (hq : pc + 1 = q) (hz : a.bmod 256 = z) (k : Rj Y y q ls (vI z :: st) μ Q) : Rj Y y pc ls (vI a :: st) μ Q := by
  subst hq
  intro l p e s m args below meth c G H locs la hC hP hS hl
  obtain ⟨hx, hb, hr, hml, hown, hlk, hSW⟩ := id hC
  subst hz
  exact lv_i2b hx hb hd (o32_b a) (k l p e s m args below meth c G H locs la hC hP hS hl)
theorem Rj_lcmp {a b : Int} (hd : decode y.2.1 pc = .ok (.lcmp, 1)) (hq : pc + 1 = q) (ha : i64 a) (hbb : i64 b) (k : Rj Y y q ls (vI (z_cmp a b) :: st) μ Q) : Rj Y y pc ls (vL b :: vL a :: st) μ Q := by
  subst hq
  intro l p e s m args below meth c G H locs la hC hP hS hl
  obtain ⟨hx, hb, hr, hml, hown, hlk, hSW⟩ := id hC
  refine W.lcmp hx hb hd ?_
  rw [lg_cmp_z ha hbb]
  exact k l p e s m args below meth c G H locs la hC hP hS hl
theorem pv_cat1 {G : Gd} {v : PV} (h : v.1 ≠ 2) : (pv G v).category = 1 := by
  unfold pv
  split <;> first | rfl | (rename_i hh; exact absurd hh h)
theorem Rj_dup {v : PV} (hd : decode y.2.1 pc = .ok (.dup, 1)) (hq : pc + 1 = q) (hv : v.1 ≠ 2) (k : Rj Y y q ls (v :: v :: st) μ Q) : Rj Y y pc ls (v :: st) μ Q := by
  subst hq
  intro l p e s m args below meth c G H locs la hC hP hS hl
  obtain ⟨hx, hb, hr, hml, hown, hlk, hSW⟩ := id hC
  exact lv_dup hx hb hd (pv_cat1 hv) (k l p e s m args below meth c G H locs la hC hP hS hl)
theorem Rj_dup_x1 {v w : PV} (hd : decode y.2.1 pc = .ok (.dup_x1, 1)) (hq : pc + 1 = q) (hv : v.1 ≠ 2) (hw : w.1 ≠ 2) (k : Rj Y y q ls (v :: w :: v :: st) μ Q) : Rj Y y pc ls (v :: w :: st) μ Q := by
  subst hq
  intro l p e s m args below meth c G H locs la hC hP hS hl
  obtain ⟨hx, hb, hr, hml, hown, hlk, hSW⟩ := id hC
  exact lv_dup_x1 hx hb hd (pv_cat1 hv) (pv_cat1 hw) (k l p e s m args below meth c G H locs la hC hP hS hl)
theorem Rj_pop {v : PV} (hd : decode y.2.1 pc = .ok (.pop, 1)) (hq : pc + 1 = q) (hv : v.1 ≠ 2) (k : Rj Y y q ls st μ Q) : Rj Y y pc ls (v :: st) μ Q := by
  subst hq
  intro l p e s m args below meth c G H locs la hC hP hS hl
  obtain ⟨hx, hb, hr, hml, hown, hlk, hSW⟩ := id hC
  exact lv_pop hx hb hd (pv_cat1 hv) (k l p e s m args below meth c G H locs la hC hP hS hl)
theorem Rj_dup2 {v w : PV} (hd : decode y.2.1 pc = .ok (.dup2, 1)) (hq : pc + 1 = q) (hv : v.1 ≠ 2) (hw : w.1 ≠ 2) (k : Rj Y y q ls (v :: w :: v :: w :: st) μ Q) : Rj Y y pc ls (v :: w :: st) μ Q := by
  subst hq
  intro l p e s m args below meth c G H locs la hC hP hS hl
  obtain ⟨hx, hb, hr, hml, hown, hlk, hSW⟩ := id hC
  exact lv_dup2_11 hx hb hd (pv_cat1 hv) (pv_cat1 hw) (k l p e s m args below meth c G H locs la hC hP hS hl)
theorem Rj_dup2L {z : Int} (hd : decode y.2.1 pc = .ok (.dup2, 1)) (hq : pc + 1 = q) (k : Rj Y y q ls (vL z :: vL z :: st) μ Q) : Rj Y y pc ls (vL z :: st) μ Q := by
  subst hq
  intro l p e s m args below meth c G H locs la hC hP hS hl
  obtain ⟨hx, hb, hr, hml, hown, hlk, hSW⟩ := id hC
  exact lv_dup2_2 hx hb hd rfl (k l p e s m args below meth c G H locs la hC hP hS hl)
theorem Rj_pop2L {z : Int} (hd : decode y.2.1 pc = .ok (.pop2, 1)) (hq : pc + 1 = q) (k : Rj Y y q ls st μ Q) : Rj Y y pc ls (vL z :: st) μ Q := by
  subst hq
  intro l p e s m args below meth c G H locs la hC hP hS hl
  obtain ⟨hx, hb, hr, hml, hown, hlk, hSW⟩ := id hC
  exact lv_pop2_2 hx hb hd rfl (k l p e s m args below meth c G H locs la hC hP hS hl)
theorem Rj_goto {off : Int} {t : Nat} (hd : decode y.2.1 pc = .ok (.goto off, 3)) (ht : (pc : Int) + off = (t : Int)) (k : Rj Y y t ls st μ Q) : Rj Y y pc ls st μ Q := by
  intro l p e s m args below meth c G H locs la hC hP hS hl
  obtain ⟨hx, hb, hr, hml, hown, hlk, hSW⟩ := id hC
  exact lv_goto hx hb hd ht (k l p e s m args below meth c G H locs la hC hP hS hl)
theorem Rj_icmp_eq {a b : Int} {off : Int} {t : Nat} (hd : decode y.2.1 pc = .ok (.if_icmp .eq off, 3)) (hq : pc + 3 = q) (ht : (pc : Int) + off = (t : Int)) (ha : i32 a) (hbb : i32 b) (kt : a = b → Rj Y y t ls st μ Q) (kf : a ≠ b → Rj Y y q ls st μ Q) : Rj Y y pc ls (vI b :: vI a :: st) μ Q := by
  subst hq
  intro l p e s m args below meth c G H locs la hC hP hS hl
  obtain ⟨hx, hb, hr, hml, hown, hlk, hSW⟩ := id hC
  exact lv_icmp_eq hx hb hd ht (fun h => kt ((fun h => (o32_inj ha hbb).mp h) h) l p e s m args below meth c G H locs la hC hP hS hl) (fun h => kf ((fun h q => h ((o32_inj ha hbb).mpr q)) h) l p e s m args below meth c G H locs la hC hP hS hl)
theorem Rj_if_eq {a : Int} {off : Int} {t : Nat} (hd : decode y.2.1 pc = .ok (.ifCond .eq off, 3)) (hq : pc + 3 = q) (ht : (pc : Int) + off = (t : Int)) (ha : i32 a) (kt : a = 0 → Rj Y y t ls st μ Q) (kf : a ≠ 0 → Rj Y y q ls st μ Q) : Rj Y y pc ls (vI a :: st) μ Q := by
  subst hq
  have hbb : i32 0 := by decide
  intro l p e s m args below meth c G H locs la hC hP hS hl
  obtain ⟨hx, hb, hr, hml, hown, hlk, hSW⟩ := id hC
  exact lv_if_eq hx hb hd ht (fun h => kt ((fun h => (o32_inj ha hbb).mp h) h) l p e s m args below meth c G H locs la hC hP hS hl) (fun h => kf ((fun h q => h ((o32_inj ha hbb).mpr q)) h) l p e s m args below meth c G H locs la hC hP hS hl)
theorem Rj_lc_eq {a b : Int} {off : Int} {t q2 : Nat} (hd : decode y.2.1 pc = .ok (.lcmp, 1)) (hq : pc + 1 = q) (hd2 : decode y.2.1 q = .ok (.ifCond .eq off, 3)) (hq2 : q + 3 = q2) (ht : (q : Int) + off = (t : Int)) (ha : i64 a) (hbb : i64 b) (kt : a = b → Rj Y y t ls st μ Q) (kf : a ≠ b → Rj Y y q2 ls st μ Q) : Rj Y y pc ls (vL b :: vL a :: st) μ Q := by
  refine Rj_lcmp hd hq ha hbb (Rj_if_eq hd2 hq2 ht (by unfold z_cmp; split <;> (try split) <;> decide) (fun h => kt ?_) (fun h => kf ?_))
  · unfold z_cmp at h; revert h; split <;> (try split) <;> omega
  · unfold z_cmp at h; revert h; split <;> (try split) <;> omega
theorem Rj_icmp_ne {a b : Int} {off : Int} {t : Nat} (hd : decode y.2.1 pc = .ok (.if_icmp .ne off, 3)) (hq : pc + 3 = q) (ht : (pc : Int) + off = (t : Int)) (ha : i32 a) (hbb : i32 b) (kt : a ≠ b → Rj Y y t ls st μ Q) (kf : a = b → Rj Y y q ls st μ Q) : Rj Y y pc ls (vI b :: vI a :: st) μ Q := by
  subst hq
  intro l p e s m args below meth c G H locs la hC hP hS hl
  obtain ⟨hx, hb, hr, hml, hown, hlk, hSW⟩ := id hC
  exact lv_icmp_ne hx hb hd ht (fun h => kt ((fun h q => h ((o32_inj ha hbb).mpr q)) h) l p e s m args below meth c G H locs la hC hP hS hl) (fun h => kf ((fun h => (o32_inj ha hbb).mp h) h) l p e s m args below meth c G H locs la hC hP hS hl)
theorem Rj_if_ne {a : Int} {off : Int} {t : Nat} (hd : decode y.2.1 pc = .ok (.ifCond .ne off, 3)) (hq : pc + 3 = q) (ht : (pc : Int) + off = (t : Int)) (ha : i32 a) (kt : a ≠ 0 → Rj Y y t ls st μ Q) (kf : a = 0 → Rj Y y q ls st μ Q) : Rj Y y pc ls (vI a :: st) μ Q := by
  subst hq
  have hbb : i32 0 := by decide
  intro l p e s m args below meth c G H locs la hC hP hS hl
  obtain ⟨hx, hb, hr, hml, hown, hlk, hSW⟩ := id hC
  exact lv_if_ne hx hb hd ht (fun h => kt ((fun h q => h ((o32_inj ha hbb).mpr q)) h) l p e s m args below meth c G H locs la hC hP hS hl) (fun h => kf ((fun h => (o32_inj ha hbb).mp h) h) l p e s m args below meth c G H locs la hC hP hS hl)
theorem Rj_lc_ne {a b : Int} {off : Int} {t q2 : Nat} (hd : decode y.2.1 pc = .ok (.lcmp, 1)) (hq : pc + 1 = q) (hd2 : decode y.2.1 q = .ok (.ifCond .ne off, 3)) (hq2 : q + 3 = q2) (ht : (q : Int) + off = (t : Int)) (ha : i64 a) (hbb : i64 b) (kt : a ≠ b → Rj Y y t ls st μ Q) (kf : a = b → Rj Y y q2 ls st μ Q) : Rj Y y pc ls (vL b :: vL a :: st) μ Q := by
  refine Rj_lcmp hd hq ha hbb (Rj_if_ne hd2 hq2 ht (by unfold z_cmp; split <;> (try split) <;> decide) (fun h => kt ?_) (fun h => kf ?_))
  · unfold z_cmp at h; revert h; split <;> (try split) <;> omega
  · unfold z_cmp at h; revert h; split <;> (try split) <;> omega
theorem Rj_icmp_lt {a b : Int} {off : Int} {t : Nat} (hd : decode y.2.1 pc = .ok (.if_icmp .lt off, 3)) (hq : pc + 3 = q) (ht : (pc : Int) + off = (t : Int)) (ha : i32 a) (hbb : i32 b) (kt : a < b → Rj Y y t ls st μ Q) (kf : b ≤ a → Rj Y y q ls st μ Q) : Rj Y y pc ls (vI b :: vI a :: st) μ Q := by
  subst hq
  intro l p e s m args below meth c G H locs la hC hP hS hl
  obtain ⟨hx, hb, hr, hml, hown, hlk, hSW⟩ := id hC
  exact lv_icmp_lt hx hb hd ht (fun h => kt ((fun h => (o32_lt ha hbb).mp h) h) l p e s m args below meth c G H locs la hC hP hS hl) (fun h => kf ((fun h => Int.not_lt.mp (fun q => h ((o32_lt ha hbb).mpr q))) h) l p e s m args below meth c G H locs la hC hP hS hl)
theorem Rj_if_lt {a : Int} {off : Int} {t : Nat} (hd : decode y.2.1 pc = .ok (.ifCond .lt off, 3)) (hq : pc + 3 = q) (ht : (pc : Int) + off = (t : Int)) (ha : i32 a) (kt : a < 0 → Rj Y y t ls st μ Q) (kf : 0 ≤ a → Rj Y y q ls st μ Q) : Rj Y y pc ls (vI a :: st) μ Q := by
  subst hq
  have hbb : i32 0 := by decide
  intro l p e s m args below meth c G H locs la hC hP hS hl
  obtain ⟨hx, hb, hr, hml, hown, hlk, hSW⟩ := id hC
  exact lv_if_lt hx hb hd ht (fun h => kt ((fun h => (o32_lt ha hbb).mp h) h) l p e s m args below meth c G H locs la hC hP hS hl) (fun h => kf ((fun h => Int.not_lt.mp (fun q => h ((o32_lt ha hbb).mpr q))) h) l p e s m args below meth c G H locs la hC hP hS hl)
theorem Rj_lc_lt {a b : Int} {off : Int} {t q2 : Nat} (hd : decode y.2.1 pc = .ok (.lcmp, 1)) (hq : pc + 1 = q) (hd2 : decode y.2.1 q = .ok (.ifCond .lt off, 3)) (hq2 : q + 3 = q2) (ht : (q : Int) + off = (t : Int)) (ha : i64 a) (hbb : i64 b) (kt : a < b → Rj Y y t ls st μ Q) (kf : b ≤ a → Rj Y y q2 ls st μ Q) : Rj Y y pc ls (vL b :: vL a :: st) μ Q := by
  refine Rj_lcmp hd hq ha hbb (Rj_if_lt hd2 hq2 ht (by unfold z_cmp; split <;> (try split) <;> decide) (fun h => kt ?_) (fun h => kf ?_))
  · unfold z_cmp at h; revert h; split <;> (try split) <;> omega
  · unfold z_cmp at h; revert h; split <;> (try split) <;> omega
theorem Rj_icmp_ge {a b : Int} {off : Int} {t : Nat} (hd : decode y.2.1 pc = .ok (.if_icmp .ge off, 3)) (hq : pc + 3 = q) (ht : (pc : Int) + off = (t : Int)) (ha : i32 a) (hbb : i32 b) (kt : b ≤ a → Rj Y y t ls st μ Q) (kf : a < b → Rj Y y q ls st μ Q) : Rj Y y pc ls (vI b :: vI a :: st) μ Q := by
  subst hq
  intro l p e s m args below meth c G H locs la hC hP hS hl
  obtain ⟨hx, hb, hr, hml, hown, hlk, hSW⟩ := id hC
  exact lv_icmp_ge hx hb hd ht (fun h => kt ((fun h => (o32_le hbb ha).mp h) h) l p e s m args below meth c G H locs la hC hP hS hl) (fun h => kf ((fun h => Int.not_le.mp (fun q => h ((o32_le hbb ha).mpr q))) h) l p e s m args below meth c G H locs la hC hP hS hl)
theorem Rj_if_ge {a : Int} {off : Int} {t : Nat} (hd : decode y.2.1 pc = .ok (.ifCond .ge off, 3)) (hq : pc + 3 = q) (ht : (pc : Int) + off = (t : Int)) (ha : i32 a) (kt : 0 ≤ a → Rj Y y t ls st μ Q) (kf : a < 0 → Rj Y y q ls st μ Q) : Rj Y y pc ls (vI a :: st) μ Q := by
  subst hq
  have hbb : i32 0 := by decide
  intro l p e s m args below meth c G H locs la hC hP hS hl
  obtain ⟨hx, hb, hr, hml, hown, hlk, hSW⟩ := id hC
  exact lv_if_ge hx hb hd ht (fun h => kt ((fun h => (o32_le hbb ha).mp h) h) l p e s m args below meth c G H locs la hC hP hS hl) (fun h => kf ((fun h => Int.not_le.mp (fun q => h ((o32_le hbb ha).mpr q))) h) l p e s m args below meth c G H locs la hC hP hS hl)
theorem Rj_lc_ge {a b : Int} {off : Int} {t q2 : Nat} (hd : decode y.2.1 pc = .ok (.lcmp, 1)) (hq : pc + 1 = q) (hd2 : decode y.2.1 q = .ok (.ifCond .ge off, 3)) (hq2 : q + 3 = q2) (ht : (q : Int) + off = (t : Int)) (ha : i64 a) (hbb : i64 b) (kt : b ≤ a → Rj Y y t ls st μ Q) (kf : a < b → Rj Y y q2 ls st μ Q) : Rj Y y pc ls (vL b :: vL a :: st) μ Q := by
  refine Rj_lcmp hd hq ha hbb (Rj_if_ge hd2 hq2 ht (by unfold z_cmp; split <;> (try split) <;> decide) (fun h => kt ?_) (fun h => kf ?_))
  · unfold z_cmp at h; revert h; split <;> (try split) <;> omega
  · unfold z_cmp at h; revert h; split <;> (try split) <;> omega
theorem Rj_icmp_gt {a b : Int} {off : Int} {t : Nat} (hd : decode y.2.1 pc = .ok (.if_icmp .gt off, 3)) (hq : pc + 3 = q) (ht : (pc : Int) + off = (t : Int)) (ha : i32 a) (hbb : i32 b) (kt : b < a → Rj Y y t ls st μ Q) (kf : a ≤ b → Rj Y y q ls st μ Q) : Rj Y y pc ls (vI b :: vI a :: st) μ Q := by
  subst hq
  intro l p e s m args below meth c G H locs la hC hP hS hl
  obtain ⟨hx, hb, hr, hml, hown, hlk, hSW⟩ := id hC
  exact lv_icmp_gt hx hb hd ht (fun h => kt ((fun h => (o32_lt hbb ha).mp h) h) l p e s m args below meth c G H locs la hC hP hS hl) (fun h => kf ((fun h => Int.not_lt.mp (fun q => h ((o32_lt hbb ha).mpr q))) h) l p e s m args below meth c G H locs la hC hP hS hl)
theorem Rj_if_gt {a : Int} {off : Int} {t : Nat} (hd : decode y.2.1 pc = .ok (.ifCond .gt off, 3)) (hq : pc + 3 = q) (ht : (pc : Int) + off = (t : Int)) (ha : i32 a) (kt : 0 < a → Rj Y y t ls st μ Q) (kf : a ≤ 0 → Rj Y y q ls st μ Q) : Rj Y y pc ls (vI a :: st) μ Q := by
  subst hq
  have hbb : i32 0 := by decide
  intro l p e s m args below meth c G H locs la hC hP hS hl
  obtain ⟨hx, hb, hr, hml, hown, hlk, hSW⟩ := id hC
  exact lv_if_gt hx hb hd ht (fun h => kt ((fun h => (o32_lt hbb ha).mp h) h) l p e s m args below meth c G H locs la hC hP hS hl) (fun h => kf ((fun h => Int.not_lt.mp (fun q => h ((o32_lt hbb ha).mpr q))) h) l p e s m args below meth c G H locs la hC hP hS hl)
theorem Rj_lc_gt {a b : Int} {off : Int} {t q2 : Nat} (hd : decode y.2.1 pc = .ok (.lcmp, 1)) (hq : pc + 1 = q) (hd2 : decode y.2.1 q = .ok (.ifCond .gt off, 3)) (hq2 : q + 3 = q2) (ht : (q : Int) + off = (t : Int)) (ha : i64 a) (hbb : i64 b) (kt : b < a → Rj Y y t ls st μ Q) (kf : a ≤ b → Rj Y y q2 ls st μ Q) : Rj Y y pc ls (vL b :: vL a :: st) μ Q := by
  refine Rj_lcmp hd hq ha hbb (Rj_if_gt hd2 hq2 ht (by unfold z_cmp; split <;> (try split) <;> decide) (fun h => kt ?_) (fun h => kf ?_))
  · unfold z_cmp at h; revert h; split <;> (try split) <;> omega
  · unfold z_cmp at h; revert h; split <;> (try split) <;> omega
theorem Rj_icmp_le {a b : Int} {off : Int} {t : Nat} (hd : decode y.2.1 pc = .ok (.if_icmp .le off, 3)) (hq : pc + 3 = q) (ht : (pc : Int) + off = (t : Int)) (ha : i32 a) (hbb : i32 b) (kt : a ≤ b → Rj Y y t ls st μ Q) (kf : b < a → Rj Y y q ls st μ Q) : Rj Y y pc ls (vI b :: vI a :: st) μ Q := by
  subst hq
  intro l p e s m args below meth c G H locs la hC hP hS hl
  obtain ⟨hx, hb, hr, hml, hown, hlk, hSW⟩ := id hC
  exact lv_icmp_le hx hb hd ht (fun h => kt ((fun h => (o32_le ha hbb).mp h) h) l p e s m args below meth c G H locs la hC hP hS hl) (fun h => kf ((fun h => Int.not_le.mp (fun q => h ((o32_le ha hbb).mpr q))) h) l p e s m args below meth c G H locs la hC hP hS hl)
theorem Rj_if_le {a : Int} {off : Int} {t : Nat} (hd : decode y.2.1 pc = .ok (.ifCond .le off, 3)) (hq : pc + 3 = q) (ht : (pc : Int) + off = (t : Int)) (ha : i32 a) (kt : a ≤ 0 → Rj Y y t ls st μ Q) (kf : 0 < a → Rj Y y q ls st μ Q) : Rj Y y pc ls (vI a :: st) μ Q := by
  subst hq
  have hbb : i32 0 := by decide
  intro l p e s m args below meth c G H locs la hC hP hS hl
  obtain ⟨hx, hb, hr, hml, hown, hlk, hSW⟩ := id hC
  exact lv_if_le hx hb hd ht (fun h => kt ((fun h => (o32_le ha hbb).mp h) h) l p e s m args below meth c G H locs la hC hP hS hl) (fun h => kf ((fun h => Int.not_le.mp (fun q => h ((o32_le ha hbb).mpr q))) h) l p e s m args below meth c G H locs la hC hP hS hl)
theorem Rj_lc_le {a b : Int} {off : Int} {t q2 : Nat} (hd : decode y.2.1 pc = .ok (.lcmp, 1)) (hq : pc + 1 = q) (hd2 : decode y.2.1 q = .ok (.ifCond .le off, 3)) (hq2 : q + 3 = q2) (ht : (q : Int) + off = (t : Int)) (ha : i64 a) (hbb : i64 b) (kt : a ≤ b → Rj Y y t ls st μ Q) (kf : b < a → Rj Y y q2 ls st μ Q) : Rj Y y pc ls (vL b :: vL a :: st) μ Q := by
  refine Rj_lcmp hd hq ha hbb (Rj_if_le hd2 hq2 ht (by unfold z_cmp; split <;> (try split) <;> decide) (fun h => kt ?_) (fun h => kf ?_))
  · unfold z_cmp at h; revert h; split <;> (try split) <;> omega
  · unfold z_cmp at h; revert h; split <;> (try split) <;> omega
theorem Rj_iret {z : Int} (hd : decode y.2.1 pc = .ok (.ireturn, 1)) (hr0 : y.2.2.2.1 = some .int) (k : Q (vI z) μ) : Rj Y y pc ls [vI z] μ Q := by
  intro l p e s m args below meth c G H locs la hC hP hS hl
  obtain ⟨hx, hb, hr, hml, hown, hlk, hSW⟩ := id hC
  exact W.iret hx hb (hr.trans hr0) (fun t ht hW => ⟨⟨vI z, μ, rfl, ⟨fun h => Nat.noConfusion h, fun h => by rw [hr0] at h; cases h⟩, k, by rw [ht]; exact hP⟩, hS.F ht⟩) hS.2.2 hd hlk
theorem Rj_zret {z : Int} {ty : FieldType} (hd : decode y.2.1 pc = .ok (.ireturn, 1)) (hr0 : y.2.2.2.1 = some ty) (hn : narrow ty (.int (Int32.ofInt z)) = .int (Int32.ofInt z)) (k : Q (vI z) μ) : Rj Y y pc ls [vI z] μ Q := by
  intro l p e s m args below meth c G H locs la hC hP hS hl
  obtain ⟨hx, hb, hr, hml, hown, hlk, hSW⟩ := id hC
  exact W.zret hx hb (hr.trans hr0) hn (fun t ht hW => ⟨⟨vI z, μ, rfl, ⟨fun h => Nat.noConfusion h, fun h => by rw [hr0] at h; cases h⟩, k, by rw [ht]; exact hP⟩, hS.F ht⟩) hS.2.2 hd hlk
theorem Rj_lret {z : Int} (hd : decode y.2.1 pc = .ok (.lreturn, 1)) (hr0 : y.2.2.2.1 = some .long) (k : Q (vL z) μ) : Rj Y y pc ls [vL z] μ Q := by
  intro l p e s m args below meth c G H locs la hC hP hS hl
  obtain ⟨hx, hb, hr, hml, hown, hlk, hSW⟩ := id hC
  exact W.lret hx hb (hr.trans hr0) (fun t ht hW => ⟨⟨vL z, μ, rfl, ⟨fun h => Nat.noConfusion h, fun h => by rw [hr0] at h; cases h⟩, k, by rw [ht]; exact hP⟩, hS.F ht⟩) hS.2.2 hd hlk
theorem Rj_vret (hd : decode y.2.1 pc = .ok (.return_, 1)) (hr0 : y.2.2.2.1 = none) (k : Q vU μ) : Rj Y y pc ls [] μ Q := by
  intro l p e s m args below meth c G H locs la hC hP hS hl
  obtain ⟨hx, hb, hr, hml, hown, hlk, hSW⟩ := id hC
  exact W.vret hx hb (hr.trans hr0) (fun t ht hW => ⟨⟨vU, μ, rfl, ⟨fun _ => hr0, fun _ => rfl⟩, k, by rw [ht]; exact hP⟩, hS.F ht⟩) hS.2.2 hd hlk
theorem Rj_kret {z : Int} {n : String} (hd : decode y.2.1 pc = .ok (.areturn, 1)) (hr0 : y.2.2.2.1 = some (.object n)) (k : Q (vK z) μ) : Rj Y y pc ls [vK z] μ Q := by
  intro l p e s m args below meth c G H locs la hC hP hS hl
  obtain ⟨hx, hb, hr, hml, hown, hlk, hSW⟩ := id hC
  exact W.aret hx hb (hr.trans hr0) (Or.inl ⟨n, rfl⟩) (Or.inr ⟨_, rfl⟩) (fun t ht hW => ⟨⟨vK z, μ, rfl, ⟨fun h => Nat.noConfusion h, fun h => by rw [hr0] at h; cases h⟩, k, by rw [ht]; exact hP⟩, hS.F ht⟩) hS.2.2 hd hlk
end RULES
