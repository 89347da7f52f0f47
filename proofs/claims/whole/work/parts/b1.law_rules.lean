/-! THE CLAIM OUT OF ONE WALK OF THE LAW'S BODY. Your part is whole_start (and what it stands on); all else here is the same for every law, but numbers. -/
def R_law : String := "DoorsOnCogsLaw"
def lw_P (b : Addr) (xs : List Int32) (args : Array Value) (s : State) : Prop := args = #[.ref b] ∧ s.IntsAt b xs ∧ xs.length ≤ 3072 ∧ (Jvm.Cond.and given_1 narrow_1).before args s = true
def lw_Q (_ : Array Value) (s : State) (o : Outcome) (t : State) : Prop := o = .returned (some (.int 1)) ∧ Framed s o t [] 600000 7302250
def lw_Z (below : List Frame) (a : Array Value) (s : State) : State → Prop := fun t => ∃ o, t.status = .running ∧ Ended t below o ∧ lw_Q a s o t
/-- the law's own end, with 1 on the stack, nothing written that was there before, its room as the claim has it -/
theorem lw_ret {p : Program} {l : Launch} {e : Env} {s : State} {m : MethodId} {below : List Frame} {meth : Method} {c : Code} {b : Nat} (hx : p.tables.exec = Jvm.exec) (hb : c.code = code) (hr : meth.sig.returnType = ret) (hlocks : meth.locks = false) {pc : Nat} {H : Heap} {ls : Array Slot} (hdg : decode code pc = .ok (.ireturn, 1)) : W p l e room_1 s m #[Value.ref b] below meth c H [] 600000 7302250 (lw_Z below #[Value.ref b] s) (F0 m pc ls [.int 1]) := by
  intro T hT X
  obtain ⟨fs, hret, hrun, hended, hW, hframe⟩ := X.leave (v := some (.int 1)) (hlocks := hlocks) (fun h => by rw [hr] at h; cases h)
  have hmeth' : T.vm.method? m = some meth := X.method'
  refine ⟨T.setFrames fs, ?_, .returned (some (.int 1)), hrun, hended, rfl, ⟨_, rfl⟩, hW, hframe⟩
  jvm_step X.here [X.here.top, hx, hb, hdg, hmeth', hr, ret, narrow_b1]
  (try refine ⟨rfl, ?_⟩); (try refine ⟨rfl, ?_⟩)
  first | (intro acts; rw [hret _ acts rfl rfl rfl]) | rw [hret _ _ rfl rfl rfl]
  exact Steps.refl _
/-- what holds at the law's entry: the machine, the code, the tables' words (any of lw_tbl by 'hts w (by decide +kernel)'), the script of L ints xs at the cell b, what the Statement gives of the start (any of its parts by flat_of_before) -/
def lw_At (p : Program) (s : State) (m : MethodId) (meth : Method) (c : Code) (b L : Nat) (xs : Nat → Int32) : Prop :=
  p.tables.exec = Jvm.exec ∧ c.code = code ∧ meth.sig.returnType = ret ∧ c.maxLocals = 4 ∧ s.vm.findClass R_law = some m.cls ∧ (∀ w ∈ lw_tbl, w.before #[Value.ref b] s = true) ∧ va_X b L xs s s.heap ∧ b < s.heap.size ∧ meth.locks = false ∧ (Jvm.Cond.and given_1 narrow_1).before #[Value.ref b] s = true

/-! the law's own judgement -/
def LX (p : Program) (s : State) (m : MethodId) (meth : Method) (c : Code) (b L : Nat) (xs : Nat → Int32) (G G2 : Gd) : Prop :=
  lw_At p s m meth c b L xs ∧ SW YD G s ∧ SW YM G2 s ∧ (∀ i, i < YD.1 → s.heap.size ≤ G.1 i) ∧ (∀ i, i < YM.1 → s.heap.size ≤ G2.1 i) ∧ ∀ i j, i < YD.1 → j < YM.1 → G.1 i ≠ G2.1 j
def Lj (G G2 : Gd) (b L : Nat) (xs : Nat → Int32) (pc : Nat) (ls st : List PV) (μ ν : Mem) : Prop :=
  ∀ (l : Launch) (p : Program) (e : Env) (s : State) (m : MethodId) (below : List Frame) (meth : Method) (c : Code) (H : Heap) (locs : List Loc) (la : Array Slot), LX p s m meth c b L xs G G2 → va_P (dG G) classes (wld YD G μ) H → va_P (dG G2) classes (wld YM G2 ν) H → va_S (fun q : Nat => s.heap.size ≤ q) s.heap H locs → lv_has la 4 (toL G ls) →
    W p l e room_1 s m #[Value.ref b] below meth c H locs 600000 7302250 (lw_Z below #[Value.ref b] s) (F0 m pc la (st.map (pv G)))
section LAW
variable {G G2 : Gd} {b L pc q : Nat} {xs : Nat → Int32} {ls st rest : List PV} {μ ν : Mem}
theorem Lj_iconst {n : Int} (hd : decode code pc = .ok (.iconst n, 1)) (hq : pc + 1 = q) (k : Lj G G2 b L xs q ls (vI n :: st) μ ν) : Lj G G2 b L xs pc ls (st) μ ν := by
  subst hq
  intro l p e s m below meth c H locs la hX hP hQ hS hl
  obtain ⟨⟨hx, hb, hr, hml, hown, hts, hXs, hbl, hlk, hgv⟩, hSD, hSM, hAD, hAM, hdis⟩ := id hX
  exact lv_iconst hx hb hd rfl (k l p e s m below meth c H locs la hX hP hQ hS hl)
theorem Lj_bipush {n : Int} (hd : decode code pc = .ok (.bipush n, 2)) (hq : pc + 2 = q) (hn : (Int8.ofInt n).toInt32 = Int32.ofInt n) (k : Lj G G2 b L xs q ls (vI n :: st) μ ν) : Lj G G2 b L xs pc ls (st) μ ν := by
  subst hq
  intro l p e s m below meth c H locs la hX hP hQ hS hl
  obtain ⟨⟨hx, hb, hr, hml, hown, hts, hXs, hbl, hlk, hgv⟩, hSD, hSM, hAD, hAM, hdis⟩ := id hX
  exact lv_bipush hx hb hd hn (k l p e s m below meth c H locs la hX hP hQ hS hl)
theorem Lj_iload {j : Fin 4} {i : Nat} {z : Int} (hd : decode code pc = .ok (.iload_n j, 1)) (hq : pc + 1 = q) (hi : (j : Nat) = i) (hz : ls[i]? = some (vI z)) (k : Lj G G2 b L xs q ls (vI z :: st) μ ν) : Lj G G2 b L xs pc ls (st) μ ν := by
  subst hq
  intro l p e s m below meth c H locs la hX hP hQ hS hl
  obtain ⟨⟨hx, hb, hr, hml, hown, hts, hXs, hbl, hlk, hgv⟩, hSD, hSM, hAD, hAM, hdis⟩ := id hX
  exact lv_iload_n hx hb hd hi (toL_at hl hz (Nat.noConfusion)) (k l p e s m below meth c H locs la hX hP hQ hS hl)
theorem Lj_aload {j : Fin 4} {i : Nat} {z : Int} (hd : decode code pc = .ok (.aload_n j, 1)) (hq : pc + 1 = q) (hi : (j : Nat) = i) (hz : ls[i]? = some (vA z)) (k : Lj G G2 b L xs q ls (vA z :: st) μ ν) : Lj G G2 b L xs pc ls (st) μ ν := by
  subst hq
  intro l p e s m below meth c H locs la hX hP hQ hS hl
  obtain ⟨⟨hx, hb, hr, hml, hown, hts, hXs, hbl, hlk, hgv⟩, hSD, hSM, hAD, hAM, hdis⟩ := id hX
  exact lv_aload_n hx hb hd hi (toL_at hl hz (Nat.noConfusion)) (k l p e s m below meth c H locs la hX hP hQ hS hl)
theorem Lj_rload {j : Fin 4} {i : Nat} {z : Int} (hd : decode code pc = .ok (.aload_n j, 1)) (hq : pc + 1 = q) (hi : (j : Nat) = i) (hz : ls[i]? = some (vR z)) (k : Lj G G2 b L xs q ls (vR z :: st) μ ν) : Lj G G2 b L xs pc ls (st) μ ν := by
  subst hq
  intro l p e s m below meth c H locs la hX hP hQ hS hl
  obtain ⟨⟨hx, hb, hr, hml, hown, hts, hXs, hbl, hlk, hgv⟩, hSD, hSM, hAD, hAM, hdis⟩ := id hX
  exact lv_aload_n hx hb hd hi (toL_at hl hz (Nat.noConfusion)) (k l p e s m below meth c H locs la hX hP hQ hS hl)
theorem Lj_iadd {a c0 : Int} (hd : decode code pc = .ok (.iadd, 1)) (hq : pc + 1 = q) (k : Lj G G2 b L xs q ls (vI (a + c0) :: st) μ ν) : Lj G G2 b L xs pc ls (vI c0 :: vI a :: st) μ ν := by
  subst hq
  intro l p e s m below meth c H locs la hX hP hQ hS hl
  obtain ⟨⟨hx, hb, hr, hml, hown, hts, hXs, hbl, hlk, hgv⟩, hSD, hSM, hAD, hAM, hdis⟩ := id hX
  refine lv_iadd hx hb hd ?_
  rw [← Int32.ofInt_add]
  exact k l p e s m below meth c H locs la hX hP hQ hS hl
theorem Lj_isub {a c0 : Int} (hd : decode code pc = .ok (.isub, 1)) (hq : pc + 1 = q) (k : Lj G G2 b L xs q ls (vI (a - c0) :: st) μ ν) : Lj G G2 b L xs pc ls (vI c0 :: vI a :: st) μ ν := by
  subst hq
  intro l p e s m below meth c H locs la hX hP hQ hS hl
  obtain ⟨⟨hx, hb, hr, hml, hown, hts, hXs, hbl, hlk, hgv⟩, hSD, hSM, hAD, hAM, hdis⟩ := id hX
  refine lv_isub hx hb hd ?_
  rw [← Int32.ofInt_sub]
  exact k l p e s m below meth c H locs la hX hP hQ hS hl
theorem Lj_iand {a c0 z : Int} (hd : decode code pc = .ok (.iand, 1)) (hq : pc + 1 = q) (hz : z_and a c0 = z) (k : Lj G G2 b L xs q ls (vI z :: st) μ ν) : Lj G G2 b L xs pc ls (vI c0 :: vI a :: st) μ ν := by
  subst hq
  intro l p e s m below meth c H locs la hX hP hQ hS hl
  obtain ⟨⟨hx, hb, hr, hml, hown, hts, hXs, hbl, hlk, hgv⟩, hSD, hSM, hAD, hAM, hdis⟩ := id hX
  subst hz
  exact lv_iand hx hb hd (W_st (by show _ = Value.int (Int32.ofInt (z_and a c0)) :: _; rw [z_and, r32]) (k l p e s m below meth c H locs la hX hP hQ hS hl))
theorem Lj_ld {i : Int} (hL : L ≤ 3072) (hi : 0 ≤ i ∧ i < (L : Int)) (hd : decode code pc = .ok (.iaload, 1)) (hq : pc + 1 = q) (k : Lj G G2 b L xs q ls (vI (xs i.toNat).toInt :: st) μ ν) : Lj G G2 b L xs pc ls (vI i :: vR (b : Int) :: st) μ ν := by
  subst hq
  intro l p e s m below meth c H locs la hX hP hQ hS hl
  obtain ⟨⟨hx, hb, hr, hml, hown, hts, hXs, hbl, hlk, hgv⟩, hSD, hSM, hAD, hAM, hdis⟩ := id hX
  refine va_sld hx hb hXs hbl (Nat.not_le.mpr hbl) hS (o32_in hi.1 hi.2 (by omega)) hd ?_
  refine W_st (by show _ = Value.int (Int32.ofInt (xs i.toNat).toInt) :: _; rw [r32, o32_clamp hi.1 (by omega)]) (k l p e s m below meth c H locs la hX hP hQ hS hl)
theorem Lj_len (hd : decode code pc = .ok (.arraylength, 1)) (hq : pc + 1 = q) (k : Lj G G2 b L xs q ls (vI (L : Int) :: st) μ ν) : Lj G G2 b L xs pc ls (vR (b : Int) :: st) μ ν := by
  subst hq
  intro l p e s m below meth c H locs la hX hP hQ hS hl
  obtain ⟨⟨hx, hb, hr, hml, hown, hts, hXs, hbl, hlk, hgv⟩, hSD, hSM, hAD, hAM, hdis⟩ := id hX
  refine va_slen hx hb hXs hbl (Nat.not_le.mpr hbl) hS hd ?_
  refine W_st (by show _ = Value.int (Int32.ofInt (L : Int)) :: _; first | rfl | rw [Int32.ofInt_natCast]) (k l p e s m below meth c H locs la hX hP hQ hS hl)
theorem Lj_goto {off : Int} {t : Nat} (hd : decode code pc = .ok (.goto off, 3)) (ht : (pc : Int) + off = (t : Int)) (k : Lj G G2 b L xs t ls st μ ν) : Lj G G2 b L xs pc ls st μ ν := by
  intro l p e s m below meth c H locs la hX hP hQ hS hl
  obtain ⟨⟨hx, hb, hr, hml, hown, hts, hXs, hbl, hlk, hgv⟩, hSD, hSM, hAD, hAM, hdis⟩ := id hX
  exact lv_goto hx hb hd ht (k l p e s m below meth c H locs la hX hP hQ hS hl)
theorem Lj_gt {a c0 : Int} {off : Int} {t : Nat} (hd : decode code pc = .ok (.if_icmp .gt off, 3)) (hq : pc + 3 = q) (ht : (pc : Int) + off = (t : Int)) (ha : i32 a) (hbb : i32 c0) (kt : c0 < a → Lj G G2 b L xs t ls st μ ν) (kf : a ≤ c0 → Lj G G2 b L xs q ls st μ ν) : Lj G G2 b L xs pc ls (vI c0 :: vI a :: st) μ ν := by
  subst hq
  intro l p e s m below meth c H locs la hX hP hQ hS hl
  obtain ⟨⟨hx, hb, hr, hml, hown, hts, hXs, hbl, hlk, hgv⟩, hSD, hSM, hAD, hAM, hdis⟩ := id hX
  exact lv_icmp_gt hx hb hd ht (fun h => kt ((fun h => (o32_lt hbb ha).mp h) h) l p e s m below meth c H locs la hX hP hQ hS hl) (fun h => kf ((fun h => Int.not_lt.mp (fun q => h ((o32_lt hbb ha).mpr q))) h) l p e s m below meth c H locs la hX hP hQ hS hl)
theorem Lj_ifeq {a : Int} {off : Int} {t : Nat} (hd : decode code pc = .ok (.ifCond .eq off, 3)) (hq : pc + 3 = q) (ht : (pc : Int) + off = (t : Int)) (ha : i32 a) (kt : a = 0 → Lj G G2 b L xs t ls st μ ν) (kf : a ≠ 0 → Lj G G2 b L xs q ls st μ ν) : Lj G G2 b L xs pc ls (vI a :: st) μ ν := by
  subst hq
  intro l p e s m below meth c H locs la hX hP hQ hS hl
  obtain ⟨⟨hx, hb, hr, hml, hown, hts, hXs, hbl, hlk, hgv⟩, hSD, hSM, hAD, hAM, hdis⟩ := id hX
  exact lv_if_eq hx hb hd ht (fun h => kt ((o32_inj ha (by decide)).mp h) l p e s m below meth c H locs la hX hP hQ hS hl) (fun h => kf (fun q => h ((o32_inj ha (by decide)).mpr q)) l p e s m below meth c H locs la hX hP hQ hS hl)
theorem Lj_same1 {r : PV} {off : Int} {t : Nat} (h : r.1 = 1) (hd : decode code pc = .ok (.if_icmp .eq off, 3)) (ht : (pc : Int) + off = (t : Int)) (k : Lj G G2 b L xs t ls st μ ν) : Lj G G2 b L xs pc ls (r :: r :: st) μ ν := by
  intro l p e s m below meth c H locs la hX hP hQ hS hl
  obtain ⟨⟨hx, hb, hr, hml, hown, hts, hXs, hbl, hlk, hgv⟩, hSD, hSM, hAD, hAM, hdis⟩ := id hX
  obtain ⟨a, z⟩ := r
  cases h
  exact lv_icmp_eq hx hb hd ht (fun _ => k l p e s m below meth c H locs la hX hP hQ hS hl) (fun h => absurd rfl h)
theorem cmp_self (x : Int64) : lg_cmp x x = 0 := by
  have h := lg_cmp_z (a := x.toInt) (b := x.toInt) (t64 _) (t64 _)
  rw [r64] at h
  rw [h]
  unfold z_cmp
  rw [if_neg (Int.lt_irrefl _), if_pos rfl]
  rfl
theorem Lj_same2 {r : PV} {off : Int} {t : Nat} (h : r.1 = 2) (hd : decode code pc = .ok (.lcmp, 1)) (hq : pc + 1 = q) (hd2 : decode code q = .ok (.ifCond .eq off, 3)) (ht : (q : Int) + off = (t : Int)) (k : Lj G G2 b L xs t ls st μ ν) : Lj G G2 b L xs pc ls (r :: r :: st) μ ν := by
  subst hq
  intro l p e s m below meth c H locs la hX hP hQ hS hl
  obtain ⟨⟨hx, hb, hr, hml, hown, hts, hXs, hbl, hlk, hgv⟩, hSD, hSM, hAD, hAM, hdis⟩ := id hX
  obtain ⟨a, z⟩ := r
  cases h
  refine W.lcmp hx hb hd ?_
  rw [cmp_self]
  exact lv_if_eq hx hb hd2 ht (fun _ => k l p e s m below meth c H locs la hX hP hQ hS hl) (fun h => absurd rfl h)
theorem Lj_tsI {dflt lo hi x0 off : Int} {offs : Array Int} {len t : Nat} (hd : decode code pc = .ok (.tableswitch dflt lo hi offs, len)) (hx0 : i32 x0) (h1 : lo ≤ x0) (h2 : x0 ≤ hi) (ho : offs[(x0 - lo).toNat]? = some off) (ht : (pc : Int) + off = (t : Int)) (k : Lj G G2 b L xs t ls st μ ν) : Lj G G2 b L xs pc ls (vI x0 :: st) μ ν := by
  intro l p e s m below meth c H locs la hX hP hQ hS hl
  obtain ⟨⟨hx, hb, hr, hml, hown, hts, hXs, hbl, hlk, hgv⟩, hSD, hSM, hAD, hAM, hdis⟩ := id hX
  exact lv_tableIn hx hb hd (by rw [o32 hx0]; omega) (by rw [o32 hx0]; omega) (by rw [o32 hx0]; exact ho) ht (k l p e s m below meth c H locs la hX hP hQ hS hl)
theorem Lj_tsO {dflt lo hi x0 : Int} {offs : Array Int} {len t : Nat} (hd : decode code pc = .ok (.tableswitch dflt lo hi offs, len)) (hx0 : i32 x0) (h1 : x0 < lo ∨ hi < x0) (ht : (pc : Int) + dflt = (t : Int)) (k : Lj G G2 b L xs t ls st μ ν) : Lj G G2 b L xs pc ls (vI x0 :: st) μ ν := by
  intro l p e s m below meth c H locs la hX hP hQ hS hl
  obtain ⟨⟨hx, hb, hr, hml, hown, hts, hXs, hbl, hlk, hgv⟩, hSD, hSM, hAD, hAM, hdis⟩ := id hX
  exact lv_tableOut hx hb hd (by rw [o32 hx0]; exact h1) ht (k l p e s m below meth c H locs la hX hP hQ hS hl)
theorem Lj_iinc {i : Nat} {n z : Int} {ls' : List PV} (hd : decode code pc = .ok (.iinc i n, 3)) (hq : pc + 3 = q) (hz : ls[i]? = some (vI z)) (hn : i < 4) (hs : stI i (vI (z + n)) ls = ls') (k : Lj G G2 b L xs q ls' st μ ν) : Lj G G2 b L xs pc ls st μ ν := by
  subst hq
  intro l p e s m below meth c H locs la hX hP hQ hS hl
  obtain ⟨⟨hx, hb, hr, hml, hown, hts, hXs, hbl, hlk, hgv⟩, hSD, hSM, hAD, hAM, hdis⟩ := id hX
  obtain ⟨kk, hk⟩ := toL_place (G := G) hz (Nat.noConfusion)
  exact lv_iinc hx hb hd hl hk (Int32.ofInt_add z n).symm hn rfl (fun la2 hl2 => k l p e s m below meth c H locs la2 hX hP hQ hS (hs ▸ lh_I rfl hl2))
theorem Lj_end (hd : decode code pc = .ok (.ireturn, 1)) : Lj G G2 b L xs pc ls [vI 1] μ ν := by
  intro l p e s m below meth c H locs la hX hP hQ hS hl
  obtain ⟨⟨hx, hb, hr, hml, hown, hts, hXs, hbl, hlk, hgv⟩, hSD, hSM, hAD, hAM, hdis⟩ := id hX
  refine va_forget (fun q hq => hS.2.2 q hq) ?_
  exact W_st rfl (lw_ret hx hb hr hlk hd)
end LAW
