/-! texts: the class's constant words, their length and signs -/
theorem fl_str_value : Cond.fieldLink "java/lang/String" 9 "java/lang/String" "value" "[B" ∈ lw_tbl := in_tab8 _ (List.mem_of_getElem? (i := 41) rfl)
theorem fl_str_coder : Cond.fieldLink "java/lang/String" 15 "java/lang/String" "coder" "B" ∈ lw_tbl := in_tab8 _ (List.mem_of_getElem? (i := 42) rfl)
theorem fl_str_compact : Cond.fieldLink "java/lang/String" 38 "java/lang/String" "COMPACT_STRINGS" "Z" ∈ lw_tbl := in_tab3 _ (List.mem_of_getElem? (i := 1) rfl)
theorem fl_str_form : Cond.fieldLink "java/lang/String" 1053 "jdk/internal/util/Preconditions" "SIOOBE_FORMATTER" "Ljava/util/function/BiFunction;" ∈ lw_tbl := in_tab3 _ (List.mem_of_getElem? (i := 21) rfl)
/-- a text's length, and its k-th sign -/
def sLn (k : Nat) : Int := ((sLen.getD k 0 : Nat) : Int)
def sCh (k : Nat) (i : Int) : Int := ((sByt.getD k []).getD i.toNat 0).toInt
section STR
variable {Y : Ly} {y : Mt} {pc q : Nat} {ls st rest : List PV} {μ : Mem} {Q : PV → Mem → Prop}
theorem Rj_ldcS {idx k : Nat} {z : Int} {tx : String} (hq0 : (y.1.cls, idx, tx, k) ∈ sTab) (hz : z.toNat = k) (hd : decode y.2.1 pc = .ok (.ldc idx, 2)) (hq : pc + 2 = q) (kk : Rj Y y q ls (vK z :: st) μ Q) : Rj Y y pc ls st μ Q := by
  subst hq; subst hz
  intro l p e s m args below meth c G H locs la hC hP hS hl
  obtain ⟨hx, hb, hr, hml, hown, hlk, hSW⟩ := id hC
  exact va_ldcS hx hb hown (hSW.2.2.2.2.1 _ hq0) hd (kk l p e s m args below meth c G H locs la hC hP hS hl)
theorem Rj_bload_n {j : Fin 4} {i : Nat} {z : Int} (hd : decode y.2.1 pc = .ok (.aload_n j, 1)) (hq : pc + 1 = q) (hi : (j : Nat) = i) (hz : ls[i]? = some (vB z)) (k : Rj Y y q ls (vB z :: st) μ Q) : Rj Y y pc ls (st) μ Q := by
  subst hq
  intro l p e s m args below meth c G H locs la hC hP hS hl
  obtain ⟨hx, hb, hr, hml, hown, hlk, hSW⟩ := id hC
  exact lv_aload_n hx hb hd hi (toL_at hl hz (Nat.noConfusion)) (k l p e s m args below meth c G H locs la hC hP hS hl)
theorem Rj_kvalue {k : Nat} {z : Int} (ho : y.1.cls = "java/lang/String") (hz : z.toNat = k) (hk : k < 17) (hd : decode y.2.1 pc = .ok (.getfield 9, 3)) (hq : pc + 3 = q) (kk : Rj Y y q ls (vB z :: st) μ Q) : Rj Y y pc ls (vK z :: st) μ Q := by
  subst hq; subst hz
  intro l p e s m args below meth c G H locs la hC hP hS hl
  obtain ⟨hx, hb, hr, hml, hown, hlk, hSW⟩ := id hC
  rw [ho] at hown
  exact vk_getf hx hb (hSW.2.2.2.1.1 z.toNat hk).2.2.1 hS hown (hSW.1 _ fl_str_value rfl _) (fun x h => h) hd (kk l p e s m args below meth c G H locs la hC hP hS hl)
theorem Rj_kcoder {k : Nat} {z : Int} (ho : y.1.cls = "java/lang/String") (hz : z.toNat = k) (hk : k < 17) (hd : decode y.2.1 pc = .ok (.getfield 15, 3)) (hq : pc + 3 = q) (kk : Rj Y y q ls (vI 0 :: st) μ Q) : Rj Y y pc ls (vK z :: st) μ Q := by
  subst hq; subst hz
  intro l p e s m args below meth c G H locs la hC hP hS hl
  obtain ⟨hx, hb, hr, hml, hown, hlk, hSW⟩ := id hC
  rw [ho] at hown
  exact vk_getf hx hb (hSW.2.2.2.1.1 z.toNat hk).2.1 hS hown (hSW.1 _ fl_str_coder rfl _) (fun x h => h) hd (kk l p e s m args below meth c G H locs la hC hP hS hl)
theorem Rj_compact (ho : y.1.cls = "java/lang/String") (hd : decode y.2.1 pc = .ok (.getstatic 38, 3)) (hq : pc + 3 = q) (kk : Rj Y y q ls (vI 1 :: st) μ Q) : Rj Y y pc ls st μ Q := by
  subst hq
  intro l p e s m args below meth c G H locs la hC hP hS hl
  obtain ⟨hx, hb, hr, hml, hown, hlk, hSW⟩ := id hC
  rw [ho] at hown
  exact va_gets hx hb hSW.2.2.2.2.2.1 hS hown (hSW.1 _ fl_str_compact rfl _) (fun x h => h) hd (kk l p e s m args below meth c G H locs la hC hP hS hl)
theorem Rj_former (ho : y.1.cls = "java/lang/String") (hd : decode y.2.1 pc = .ok (.getstatic 1053, 3)) (hq : pc + 3 = q) (kk : ∀ t : Int, Rj Y y q ls (vR t :: st) μ Q) (k0 : Rj Y y q ls (vU :: st) μ Q) : Rj Y y pc ls st μ Q := by
  subst hq
  intro l p e s m args below meth c G H locs la hC hP hS hl
  obtain ⟨hx, hb, hr, hml, hown, hlk, hSW⟩ := id hC
  rw [ho] at hown
  rcases hSW.2.2.2.2.2.2 with hZ | ⟨t, hZ⟩
  · exact va_gets hx hb hZ hS hown (hSW.1 _ fl_str_form rfl _) (fun x h => h) hd (k0 l p e s m args below meth c G H locs la hC hP hS hl)
  · refine va_gets hx hb hZ hS hown (hSW.1 _ fl_str_form rfl _) (fun x h => h) hd ?_
    have := kk (t : Int) l p e s m args below meth c G H locs la hC hP hS hl
    exact this
theorem Rj_blen {k : Nat} {z : Int} (hz : z.toNat = k) (hk : k < 17) (hd : decode y.2.1 pc = .ok (.arraylength, 1)) (hq : pc + 1 = q) (kk : Rj Y y q ls (vI (sLn k) :: st) μ Q) : Rj Y y pc ls (vB z :: st) μ Q := by
  subst hq; subst hz
  intro l p e s m args below meth c G H locs la hC hP hS hl
  obtain ⟨hx, hb, hr, hml, hown, hlk, hSW⟩ := id hC
  exact va_tlen hx hb (hSW.2.2.2.1.1 z.toNat hk).2.2.2 hS (v := Int32.ofInt (sLn z.toNat)) (by unfold sLn; first | rfl | exact (Int32.ofInt_natCast _).symm) hd (kk l p e s m args below meth c G H locs la hC hP hS hl)
theorem Rj_bat {k : Nat} {z i : Int} (hz : z.toNat = k) (hk : k < 17) (hi : 0 ≤ i ∧ i < sLn k) (hn : sLn k ≤ 100) (hd : decode y.2.1 pc = .ok (.baload, 1)) (hq : pc + 1 = q) (kk : Rj Y y q ls (vI (sCh k i) :: st) μ Q) : Rj Y y pc ls (vI i :: vB z :: st) μ Q := by
  subst hq; subst hz
  intro l p e s m args below meth c G H locs la hC hP hS hl
  obtain ⟨hx, hb, hr, hml, hown, hlk, hSW⟩ := id hC
  refine va_tb hx hb (hSW.2.2.2.1.1 z.toNat hk).2.2.2 hS (o32_in hi.1 hi.2 (by unfold sLn at hn; omega)) (v := .int (Int32.ofInt (sCh z.toNat i))) ?_ hd (kk l p e s m args below meth c G H locs la hC hP hS hl)
  rw [o32_clamp hi.1 (by omega)]
  unfold sCh
  rw [r32]
theorem i2c_n : ∀ n : Nat, n < 256 → ((Int32.ofInt (n : Int)).toUInt32 % 65536).toInt32 = Int32.ofInt (n : Int) := by decide +kernel
theorem Rj_i2c {z : Int} (hz : 0 ≤ z ∧ z < 256) (hd : decode y.2.1 pc = .ok (.i2c, 1)) (hq : pc + 1 = q) (kk : Rj Y y q ls (vI z :: st) μ Q) : Rj Y y pc ls (vI z :: st) μ Q := by
  subst hq
  intro l p e s m args below meth c G H locs la hC hP hS hl
  obtain ⟨hx, hb, hr, hml, hown, hlk, hSW⟩ := id hC
  obtain ⟨n, rfl⟩ := set_nat hz.1
  exact lv_i2c hx hb hd (i2c_n n (by omega)) (kk l p e s m args below meth c G H locs la hC hP hS hl)
theorem nar_c : ∀ n : Nat, n < 256 → narrow .char (.int (Int32.ofInt (n : Int))) = .int (Int32.ofInt (n : Int)) := by decide +kernel
/-- a call of a text's method -/
theorem Rj_ck {z : Mt} {idx k np : Nat} {as la : List PV} {zk : Int} {rt : FieldType} (hlk : Cond.methodLink y.1.cls idx z.1 ∈ lw_tbl) (hz : MW z np) (hv : MV z) (hc : z.1.cls = "java/lang/String") (hzk : zk.toNat = k) (hk : k < 17)
    (hd : decode y.2.1 pc = .ok (.invokevirtual idx, 3)) (hq : pc + 3 = q) (hst : as.reverse ++ vK zk :: rest = st) (hla : argL (vK zk :: as) = la) (hok : callOk y z (vK zk :: as) rest (np + 1) = true) (hrt : z.2.2.2.1 = some rt)
    (kc : Rj Y z 0 la [] μ (fun r μ' => Rj Y y q ls (r :: rest) μ' Q)) : Rj Y y pc ls st μ Q := by
  subst hzk; subst hst; subst hla; subst hq
  intro l p e s m args below meth c G H locs la hC hP hS hl
  obtain ⟨hx, hb, hr, hml, hown, hlkk, hSW⟩ := id hC
  obtain ⟨o1, o2, o3, o4, o5⟩ := callOk_spec hok
  obtain ⟨z1, z2, z3, z4, z5, z6⟩ := hz
  have hM := Met_of z5 o4 kc l G
  refine Rj_after (rest := rest) (z := z) (Q' := fun r μ' => Rj Y y (pc + 3) ls (r :: rest) μ' Q) hC hS hl (va_runV (C := z.1.cls) (bytes := z.2.1) (maxL := z.2.2.1) (ret := z.2.2.2.1) (index := idx) (n := np) (As := as.map (pv G)) (b := G.2.1 zk.toNat) (Ts := []) ⟨hx, hb, hml, hown, fun w hw => by cases hw⟩ hM
    ⟨⟨rfl, rfl, o1, o2, fun w hw a' U hW => by
        rw [List.mem_singleton] at hw; subst hw
        exact TW.warm hW hSW.1 _ z1 rfl _, List.mem_singleton.mpr rfl, hSW.1 _ z1 rfl _, hSW.1 _ z2 rfl _, ⟨z3, z4⟩, fun sig h => by rw [h] at z6; exact (Option.some.inj z6).symm, hSW.1 _ hlk rfl _⟩, hSW.1 _ hv.1 rfl _, hSW.1 _ hv.2 rfl _⟩
    ⟨Pc_blind, ?_, fun U hU hW => ⟨rfl, by rw [hU]; exact hP, SW.at hSW hS hU hW⟩⟩ rfl (by rw [List.length_map]; simpa using o5) hl.1 ?_ (lv_room (by rw [cats]; exact o3)) hd ⟨Nat.zero_le _, Nat.zero_le _⟩) (fun r μ' h1 h2 => by
      rw [if_neg (fun h => by rw [h1.mp h] at hrt; cases hrt)]; exact h2)
  · have := vk_recv hSW.2.2.2.1 hk hS
    rw [hc]; exact this
  · show ((as.reverse ++ vK zk :: rest).map (pv G)) = _
    rw [List.map_append, List.map_reverse]; rfl
theorem s_J_coder {k : Nat} {z : Int} (hz : z.toNat = k) (hk : k < 17) (hQ : Q (vI 0) μ) : Rj Y y_Jstr_coder 0 [vK z] [] μ Q := by
  refine Rj_compact (q := 3) rfl d_Jstr_coder_0 rfl ?_
  refine Rj_if_eq (q := 6) (t := 13) d_Jstr_coder_3 rfl (by decide) (by decide) (fun c => absurd c (by decide)) (fun _ => ?_)
  refine Rj_kload_n (q := 7) d_Jstr_coder_6 rfl rfl rfl ?_
  refine Rj_kcoder (q := 10) rfl hz hk d_Jstr_coder_7 rfl ?_
  refine Rj_goto (t := 14) d_Jstr_coder_10 (by decide) ?_
  exact Rj_zret d_Jstr_coder_14 rfl (by decide +kernel) hQ
theorem s_J_isLatin1 {k : Nat} {z : Int} (hz : z.toNat = k) (hk : k < 17) (hQ : Q (vI 1) μ) : Rj Y y_Jstr_isLatin1 0 [vK z] [] μ Q := by
  refine Rj_compact (q := 3) rfl d_Jstr_isLatin1_0 rfl ?_
  refine Rj_if_eq (q := 6) (t := 17) d_Jstr_isLatin1_3 rfl (by decide) (by decide) (fun c => absurd c (by decide)) (fun _ => ?_)
  refine Rj_kload_n (q := 7) d_Jstr_isLatin1_6 rfl rfl rfl ?_
  refine Rj_kcoder (q := 10) rfl hz hk d_Jstr_isLatin1_7 rfl ?_
  refine Rj_if_ne (q := 13) (t := 17) d_Jstr_isLatin1_10 rfl (by decide) (by decide) (fun c => absurd c (by decide)) (fun _ => ?_)
  refine Rj_iconst (q := 14) d_Jstr_isLatin1_13 rfl ?_
  refine Rj_goto (t := 18) d_Jstr_isLatin1_14 (by decide) ?_
  exact Rj_bret1 d_Jstr_isLatin1_18 rfl hQ
theorem sLn_rng (k : Nat) : 0 ≤ sLn k ∧ sLn k ≤ 100 := by
  unfold sLn
  have : ∀ k, sLen.getD k 0 ≤ 100 := by
    intro k
    by_cases h : k < 17
    · exact (show ∀ k, k < 17 → sLen.getD k 0 ≤ 100 by decide) k h
    · rw [List.getD_eq_getElem?_getD, List.getElem?_eq_none (by show 17 ≤ k; omega)]; decide
  have := this k
  omega
theorem s_J_length {k : Nat} {z : Int} (hz : z.toNat = k) (hk : k < 17) (hQ : Q (vI (sLn k)) μ) : Rj Y y_Jstr_length 0 [vK z] [] μ Q := by
  have hr := sLn_rng k
  refine Rj_kload_n (q := 1) d_Jstr_length_0 rfl rfl rfl ?_
  refine Rj_kvalue (q := 4) rfl hz hk d_Jstr_length_1 rfl ?_
  refine Rj_blen (q := 5) hz hk d_Jstr_length_4 rfl ?_
  refine Rj_kload_n (q := 6) d_Jstr_length_5 rfl rfl rfl ?_
  refine Rj_ck (q := 9) (z := y_Jstr_coder) (as := []) (rest := [vI (sLn k)]) (la := [vK z]) ml_Jstr_335 mw_Jstr_coder mv_Jstr_coder rfl hz hk d_Jstr_length_6 rfl rfl rfl rfl rfl ?_
  refine s_J_coder hz hk ?_
  refine Rj_ishr (q := 10) (z := sLn k) d_Jstr_length_9 rfl (by have := z_shr_g (a := sLn k) ⟨by omega, by omega⟩ (k := 0) (by decide); simpa using this) ?_
  exact Rj_iret d_Jstr_length_10 rfl hQ
theorem s_J_pre {a n : Int} {v : PV} (ha : 0 ≤ a ∧ a < n) (hn : n ≤ 100) (hQ : Q (vI a) μ) : Rj Y y_Jpre_checkIndex 0 [vI a, vI n, v] [] μ Q := by
  refine Rj_iload_n (q := 1) d_Jpre_checkIndex_0 rfl rfl rfl ?_
  refine Rj_if_lt (q := 4) (t := 9) d_Jpre_checkIndex_1 rfl (by decide) ⟨by omega, by omega⟩ (fun c => absurd c (by omega)) (fun _ => ?_)
  refine Rj_iload_n (q := 5) d_Jpre_checkIndex_4 rfl rfl rfl ?_
  refine Rj_iload_n (q := 6) d_Jpre_checkIndex_5 rfl rfl rfl ?_
  refine Rj_icmp_lt (q := 9) (t := 16) d_Jpre_checkIndex_6 rfl (by decide) ⟨by omega, by omega⟩ ⟨by omega, by omega⟩ (fun _ => ?_) (fun c => absurd c (by omega))
  refine Rj_iload_n (q := 17) d_Jpre_checkIndex_16 rfl rfl rfl ?_
  exact Rj_iret d_Jpre_checkIndex_17 rfl hQ
theorem s_J_check {a n : Int} (ha : 0 ≤ a ∧ a < n) (hn : n ≤ 100) (hQ : Q vU μ) : Rj Y y_Jstr_checkIndex 0 [vI a, vI n] [] μ Q := by
  refine Rj_iload_n (q := 1) d_Jstr_checkIndex_0 rfl rfl rfl ?_
  refine Rj_iload_n (q := 2) d_Jstr_checkIndex_1 rfl rfl rfl ?_
  refine Rj_former (q := 5) rfl d_Jstr_checkIndex_2 rfl (fun t => ?_) ?_
  · refine Rj_cs (q := 8) (z := y_Jpre_checkIndex) (as := [vI a, vI n, vR t]) (rest := []) (la := [vI a, vI n, vR t]) ml_Jstr_1059 mw_Jpre_checkIndex ms_Jpre_checkIndex d_Jstr_checkIndex_5 rfl rfl rfl rfl rfl ?_
    refine s_J_pre ha hn ?_
    refine Rj_pop (q := 9) d_Jstr_checkIndex_8 rfl (by intro h; cases h) ?_
    exact Rj_vret d_Jstr_checkIndex_9 rfl hQ
  · refine Rj_cs (q := 8) (z := y_Jpre_checkIndex) (as := [vI a, vI n, vU]) (rest := []) (la := [vI a, vI n, vU]) ml_Jstr_1059 mw_Jpre_checkIndex ms_Jpre_checkIndex d_Jstr_checkIndex_5 rfl rfl rfl rfl rfl ?_
    refine s_J_pre ha hn ?_
    refine Rj_pop (q := 9) d_Jstr_checkIndex_8 rfl (by intro h; cases h) ?_
    exact Rj_vret d_Jstr_checkIndex_9 rfl hQ
theorem s_J_lat {k : Nat} {z i : Int} (hz : z.toNat = k) (hk : k < 17) (hi : 0 ≤ i ∧ i < sLn k) (hc : 0 ≤ sCh k i ∧ sCh k i < 128) (hQ : Q (vI (sCh k i)) μ) : Rj Y y_Jlat_charAt 0 [vB z, vI i] [] μ Q := by
  have hr := sLn_rng k
  refine Rj_iload_n (q := 1) d_Jlat_charAt_0 rfl rfl rfl ?_
  refine Rj_bload_n (q := 2) d_Jlat_charAt_1 rfl rfl rfl ?_
  refine Rj_blen (q := 3) hz hk d_Jlat_charAt_2 rfl ?_
  refine Rj_csv (q := 6) (z := y_Jstr_checkIndex) (as := [vI i, vI (sLn k)]) (rest := []) (la := [vI i, vI (sLn k)]) ml_Jlat_9 mw_Jstr_checkIndex ms_Jstr_checkIndex d_Jlat_charAt_3 rfl rfl rfl rfl rfl ?_
  refine s_J_check hi hr.2 ?_
  refine Rj_bload_n (q := 7) d_Jlat_charAt_6 rfl rfl rfl ?_
  refine Rj_iload_n (q := 8) d_Jlat_charAt_7 rfl rfl rfl ?_
  refine Rj_bat (q := 9) hz hk hi hr.2 d_Jlat_charAt_8 rfl ?_
  refine Rj_sipush (q := 12) d_Jlat_charAt_9 rfl (by decide +kernel) ?_
  refine Rj_iand (q := 13) (z := sCh k i) d_Jlat_charAt_12 rfl (by rw [z_and_255 ⟨by omega, by omega⟩]; omega) ?_
  refine Rj_i2c (q := 14) ⟨hc.1, by omega⟩ d_Jlat_charAt_13 rfl ?_
  exact Rj_zret d_Jlat_charAt_14 rfl (by
    have := nar_c (sCh k i).toNat (by omega)
    rw [show (((sCh k i).toNat : Nat) : Int) = sCh k i by omega] at this
    exact this) hQ
theorem s_J_charAt {k : Nat} {z i : Int} (hz : z.toNat = k) (hk : k < 17) (hi : 0 ≤ i ∧ i < sLn k) (hc : 0 ≤ sCh k i ∧ sCh k i < 128) (hQ : Q (vI (sCh k i)) μ) : Rj Y y_Jstr_charAt 0 [vK z, vI i] [] μ Q := by
  refine Rj_kload_n (q := 1) d_Jstr_charAt_0 rfl rfl rfl ?_
  refine Rj_ck (q := 4) (z := y_Jstr_isLatin1) (as := []) (rest := []) (la := [vK z]) ml_Jstr_492 mw_Jstr_isLatin1 mv_Jstr_isLatin1 rfl hz hk d_Jstr_charAt_1 rfl rfl rfl rfl rfl ?_
  refine s_J_isLatin1 hz hk ?_
  refine Rj_if_eq (q := 7) (t := 16) d_Jstr_charAt_4 rfl (by decide) (by decide) (fun c => absurd c (by decide)) (fun _ => ?_)
  refine Rj_kload_n (q := 8) d_Jstr_charAt_7 rfl rfl rfl ?_
  refine Rj_kvalue (q := 11) rfl hz hk d_Jstr_charAt_8 rfl ?_
  refine Rj_iload_n (q := 12) d_Jstr_charAt_11 rfl rfl rfl ?_
  refine Rj_cs (q := 15) (z := y_Jlat_charAt) (as := [vB z, vI i]) (rest := []) (la := [vB z, vI i]) ml_Jstr_495 mw_Jlat_charAt ms_Jlat_charAt d_Jstr_charAt_12 rfl rfl rfl rfl rfl ?_
  refine s_J_lat hz hk hi hc ?_
  exact Rj_zret d_Jstr_charAt_15 rfl (by
    have := nar_c (sCh k i).toNat (by omega)
    rw [show (((sCh k i).toNat : Nat) : Int) = sCh k i by omega] at this
    exact this) hQ
end STR
