theorem gD_Bo_22_79 : GI YD "DoorsOnCogs$RuleBook" 22 79 0 (some (some 59)) := ⟨by decide, _, _, _, fl_Bo_22, cD_79, by decide, rfl⟩
theorem gD_Bo_66_59 : GI YD "DoorsOnCogs$RuleBook" 66 59 0 (some (some 3)) := ⟨by decide, _, _, _, fl_Bo_66, cD_59, by decide, rfl⟩
theorem gD_Bo_72_3 : GI YD "DoorsOnCogs$RuleBook" 72 3 1 (some (some 4)) := ⟨by decide, _, _, _, fl_Bo_72, cD_3, by decide, rfl⟩
theorem gD_Bo_77_3 : GI YD "DoorsOnCogs$RuleBook" 77 3 2 (some (some 5)) := ⟨by decide, _, _, _, fl_Bo_77, cD_3, by decide, rfl⟩
theorem oD_3_Sc_joinsOf : OI YD 3 y_Sc_joinsOf := ⟨by decide, _, _, _, cD_3, rfl⟩
/-! the words of a door -/
def jno (S : Int → Int) (d : Int) (k : Nat) : Int := ((cntB (fun j => decide (jn S (j : Int) 0 = d ∨ jn S (j : Int) 1 = d)) k : Nat) : Int)
theorem jno_step {S : Int → Int} {d j : Int} (h : 0 ≤ j) : jno S d (j + 1).toNat = jno S d j.toNat + (if jn S j 0 = d ∨ jn S j 1 = d then 1 else 0) := by
  rw [show (j + 1).toNat = j.toNat + 1 by omega]
  unfold jno
  rw [show cntB (fun j => decide (jn S (j : Int) 0 = d ∨ jn S (j : Int) 1 = d)) (j.toNat + 1) = cntB (fun j => decide (jn S (j : Int) 0 = d ∨ jn S (j : Int) 1 = d)) j.toNat + (if decide (jn S ((j.toNat : Nat) : Int) 0 = d ∨ jn S ((j.toNat : Nat) : Int) 1 = d) = true then 1 else 0) from rfl]
  rw [show ((j.toNat : Nat) : Int) = j by omega]
  by_cases e : jn S j 0 = d ∨ jn S j 1 = d
  · rw [if_pos (decide_eq_true e), if_pos e]; omega
  · rw [if_neg (by rw [decide_eq_true_eq]; exact e), if_neg e]; omega
theorem jno_rng (S : Int → Int) (d : Int) (k : Nat) : 0 ≤ jno S d k ∧ jno S d k ≤ (k : Int) := by
  unfold jno
  have := cntB_max (fun j => decide (jn S (j : Int) 0 = d ∨ jn S (j : Int) 1 = d)) k
  omega
def wrd (S pl : Int → Int) (d ah op : Int) : Int := if op = 0 then d else if op = 1 then tee S d else if op = 2 then spn S d else if op = 3 then pl d / pts S else if op = 4 then (if opn S (pts S) d (pl d) = true then 1 else 0) else if op = 5 then ((pcn (opS S (pts S) pl (S 0).toNat) : Nat) : Int) else if op = 6 then jno S d (S 1).toNat else ah
set_option maxHeartbeats 4000000 in
theorem s_joinsOf_4 : ∀ (f : Nat) {μ : Mem} {Q : PV → Mem → Prop} {S lo up dn lk pl : Int → Int} {d j m : Int}, ((S 1 - j).toNat < f) → (GX μ S lo up dn lk pl) → (0 ≤ d ∧ d < S 0) → (0 ≤ j ∧ j ≤ S 1) → (m = jno S d j.toNat) → (Q (vI (jno S d (S 1).toNat)) μ) → Rj YD y_Sc_joinsOf 4 [vA 3, vI d, vI m, vI j] [] μ Q := by
  intro f
  induction f with
  | zero => intro μ Q S lo up dn lk pl d j m hf h hd hj hm hQ; exact absurd hf (by omega)
  | succ f ih =>
    intro μ Q S lo up dn lk pl d j m hf h hd hj hm hQ
    obtain ⟨z0, z1, z2, z3, z4, z5, z6, z7⟩ := h.z
    have jr := jno_rng S d j.toNat
    refine Rj_iload_n (q := 5) d_Sc_joinsOf_4 rfl rfl rfl ?_
    refine Rj_aload_n (q := 6) d_Sc_joinsOf_5 rfl rfl rfl ?_
    refine Rj_gi (q := 9) (ki := 4) (v := S 1) gD_Sc_44_3 rfl rfl z3 d_Sc_joinsOf_6 rfl ?_
    refine Rj_icmp_ge (q := 12) (t := 41) d_Sc_joinsOf_9 rfl (by decide) ⟨by omega, by omega⟩ ⟨by omega, by omega⟩ (fun c9 => ?_) (fun c9 => ?_)
    · have ej : j = S 1 := by omega
      rw [ej] at hm
      refine Rj_iload_n (q := 42) d_Sc_joinsOf_41 rfl rfl rfl ?_
      refine Rj_iret d_Sc_joinsOf_42 rfl ?_
      exact fin_I hQ hm.symm
    · obtain ⟨e6, e7, e8⟩ := h.2.1.1.2.2.2 j hj.1 (by omega)
      obtain ⟨ka, kb, kne, kk⟩ := h.1.2.2.2.1 j hj.1 (by omega)
      have st := jno_step (S := S) (d := d) hj.1
      refine Rj_aload_n (q := 13) d_Sc_joinsOf_12 rfl rfl rfl ?_
      refine Rj_gr (q := 16) (zd := 6) gD_Sc_18_3 rfl rfl d_Sc_joinsOf_13 rfl ?_
      refine Rj_iload_n (q := 17) d_Sc_joinsOf_16 rfl rfl rfl ?_
      refine Rj_ia (q := 18) (v := jn S j 0) aD_6 rfl (by omega) e6 d_Sc_joinsOf_17 rfl ?_
      refine Rj_iload_n (q := 19) d_Sc_joinsOf_18 rfl rfl rfl ?_
      refine Rj_icmp_eq (q := 22) (t := 32) d_Sc_joinsOf_19 rfl (by decide) ⟨by omega, by omega⟩ ⟨by omega, by omega⟩ (fun c19 => ?_) (fun c19 => ?_)
      · refine Rj_iinc (q := 35) (ls' := [vA 3, vI d, vI (m + 1), vI j]) d_Sc_joinsOf_32 rfl rfl (by decide) rfl ?_
        refine Rj_iinc (q := 38) (ls' := [vA 3, vI d, vI (m + 1), vI (j + 1)]) d_Sc_joinsOf_35 rfl rfl (by decide) rfl ?_
        refine Rj_goto (t := 4) d_Sc_joinsOf_38 (by decide) ?_
        refine ih (by omega) h hd (by omega) ?_ hQ
        rw [st]
        first
          | (rw [if_pos (by omega)]; omega)
          | (rw [if_neg (by omega)]; omega)
      · refine Rj_aload_n (q := 23) d_Sc_joinsOf_22 rfl rfl rfl ?_
        refine Rj_gr (q := 26) (zd := 7) gD_Sc_21_3 rfl rfl d_Sc_joinsOf_23 rfl ?_
        refine Rj_iload_n (q := 27) d_Sc_joinsOf_26 rfl rfl rfl ?_
        refine Rj_ia (q := 28) (v := jn S j 1) aD_7 rfl (by omega) e7 d_Sc_joinsOf_27 rfl ?_
        refine Rj_iload_n (q := 29) d_Sc_joinsOf_28 rfl rfl rfl ?_
        refine Rj_icmp_ne (q := 32) (t := 35) d_Sc_joinsOf_29 rfl (by decide) ⟨by omega, by omega⟩ ⟨by omega, by omega⟩ (fun c29 => ?_) (fun c29 => ?_)
        · refine Rj_iinc (q := 38) (ls' := [vA 3, vI d, vI m, vI (j + 1)]) d_Sc_joinsOf_35 rfl rfl (by decide) rfl ?_
          refine Rj_goto (t := 4) d_Sc_joinsOf_38 (by decide) ?_
          refine ih (by omega) h hd (by omega) ?_ hQ
          rw [st]
          first
            | (rw [if_pos (by omega)]; omega)
            | (rw [if_neg (by omega)]; omega)
        · refine Rj_iinc (q := 35) (ls' := [vA 3, vI d, vI (m + 1), vI j]) d_Sc_joinsOf_32 rfl rfl (by decide) rfl ?_
          refine Rj_iinc (q := 38) (ls' := [vA 3, vI d, vI (m + 1), vI (j + 1)]) d_Sc_joinsOf_35 rfl rfl (by decide) rfl ?_
          refine Rj_goto (t := 4) d_Sc_joinsOf_38 (by decide) ?_
          refine ih (by omega) h hd (by omega) ?_ hQ
          rw [st]
          first
            | (rw [if_pos (by omega)]; omega)
            | (rw [if_neg (by omega)]; omega)
set_option maxHeartbeats 4000000 in
theorem s_joinsOf {μ : Mem} {Q : PV → Mem → Prop} {S lo up dn lk pl : Int → Int} (h : GX μ S lo up dn lk pl) {d : Int} (hd : 0 ≤ d ∧ d < S 0) (hQ : Q (vI (jno S d (S 1).toNat)) μ) : Rj YD y_Sc_joinsOf 0 [vA 3, vI d] [] μ Q := by
  obtain ⟨z0, z1, z2, z3, z4, z5, z6, z7⟩ := h.z
  refine Rj_iconst (q := 1) d_Sc_joinsOf_0 rfl ?_
  refine Rj_istore_n (q := 2) (ls' := [vA 3, vI d, vI 0]) d_Sc_joinsOf_1 rfl rfl (by decide) rfl ?_
  refine Rj_iconst (q := 3) d_Sc_joinsOf_2 rfl ?_
  refine Rj_istore_n (q := 4) (ls' := [vA 3, vI d, vI 0, vI 0]) d_Sc_joinsOf_3 rfl rfl (by decide) rfl ?_
  exact s_joinsOf_4 _ (Nat.lt_succ_self _) h hd (by omega) rfl hQ
def bcf (s : Int) : Int := z_and (((z_and (((z_and (s - (z_and (z_ush s 1) 1431655765)) 858993459) + (z_and (z_ush (s - (z_and (z_ush s 1) 1431655765)) 2) 858993459)) + (z_ush ((z_and (s - (z_and (z_ush s 1) 1431655765)) 858993459) + (z_and (z_ush (s - (z_and (z_ush s 1) 1431655765)) 2) 858993459)) 4)) 252645135) + (z_ush (z_and (((z_and (s - (z_and (z_ush s 1) 1431655765)) 858993459) + (z_and (z_ush (s - (z_and (z_ush s 1) 1431655765)) 2) 858993459)) + (z_ush ((z_and (s - (z_and (z_ush s 1) 1431655765)) 858993459) + (z_and (z_ush (s - (z_and (z_ush s 1) 1431655765)) 2) 858993459)) 4)) 252645135) 8)) + (z_ush ((z_and (((z_and (s - (z_and (z_ush s 1) 1431655765)) 858993459) + (z_and (z_ush (s - (z_and (z_ush s 1) 1431655765)) 2) 858993459)) + (z_ush ((z_and (s - (z_and (z_ush s 1) 1431655765)) 858993459) + (z_and (z_ush (s - (z_and (z_ush s 1) 1431655765)) 2) 858993459)) 4)) 252645135) + (z_ush (z_and (((z_and (s - (z_and (z_ush s 1) 1431655765)) 858993459) + (z_and (z_ush (s - (z_and (z_ush s 1) 1431655765)) 2) 858993459)) + (z_ush ((z_and (s - (z_and (z_ush s 1) 1431655765)) 858993459) + (z_and (z_ush (s - (z_and (z_ush s 1) 1431655765)) 2) 858993459)) 4)) 252645135) 8)) 16)) 63
theorem bc_64 : ∀ a, a < 64 → ∀ b, b < 64 → bcf ((64 * a + b : Nat) : Int) = ((pcn ((64 * a + b : Nat) : Int) : Nat) : Int) := by decide +kernel
theorem bc_all {s : Int} (h0 : 0 ≤ s) (h1 : s < 4096) : ((pcn s : Nat) : Int) = bcf s := by
  obtain ⟨k, rfl⟩ := set_nat h0
  have h := bc_64 (k / 64) (by omega) (k % 64) (by omega)
  rw [show 64 * (k / 64) + k % 64 = k by omega] at h
  exact h.symm
set_option maxHeartbeats 4000000 in
theorem s_J_bitCount {μ : Mem} {Q : PV → Mem → Prop} {s : Int} (hs : 0 ≤ s ∧ s < 4096) (hQ : Q (vI ((pcn s : Nat) : Int)) μ) : Rj YD y_Jint_bitCount 0 [vI s] [] μ Q := by
  refine Rj_iload_n (q := 1) d_Jint_bitCount_0 rfl rfl rfl ?_
  refine Rj_iload_n (q := 2) d_Jint_bitCount_1 rfl rfl rfl ?_
  refine Rj_iconst (q := 3) d_Jint_bitCount_2 rfl ?_
  refine Rj_iushr (q := 4) (z := z_ush s 1) d_Jint_bitCount_3 rfl rfl ?_
  refine Rj_ldcw (q := 7) k_Jint_265 d_Jint_bitCount_4 rfl ?_
  refine Rj_iand (q := 8) (z := z_and (z_ush s 1) 1431655765) d_Jint_bitCount_7 rfl rfl ?_
  refine Rj_isub (q := 9) d_Jint_bitCount_8 rfl ?_
  refine Rj_istore_n (q := 10) (ls' := [vI (s - (z_and (z_ush s 1) 1431655765))]) d_Jint_bitCount_9 rfl rfl (by decide) rfl ?_
  refine Rj_iload_n (q := 11) d_Jint_bitCount_10 rfl rfl rfl ?_
  refine Rj_ldcw (q := 14) k_Jint_266 d_Jint_bitCount_11 rfl ?_
  refine Rj_iand (q := 15) (z := z_and (s - (z_and (z_ush s 1) 1431655765)) 858993459) d_Jint_bitCount_14 rfl rfl ?_
  refine Rj_iload_n (q := 16) d_Jint_bitCount_15 rfl rfl rfl ?_
  refine Rj_iconst (q := 17) d_Jint_bitCount_16 rfl ?_
  refine Rj_iushr (q := 18) (z := z_ush (s - (z_and (z_ush s 1) 1431655765)) 2) d_Jint_bitCount_17 rfl rfl ?_
  refine Rj_ldcw (q := 21) k_Jint_266 d_Jint_bitCount_18 rfl ?_
  refine Rj_iand (q := 22) (z := z_and (z_ush (s - (z_and (z_ush s 1) 1431655765)) 2) 858993459) d_Jint_bitCount_21 rfl rfl ?_
  refine Rj_iadd (q := 23) d_Jint_bitCount_22 rfl ?_
  refine Rj_istore_n (q := 24) (ls' := [vI ((z_and (s - (z_and (z_ush s 1) 1431655765)) 858993459) + (z_and (z_ush (s - (z_and (z_ush s 1) 1431655765)) 2) 858993459))]) d_Jint_bitCount_23 rfl rfl (by decide) rfl ?_
  refine Rj_iload_n (q := 25) d_Jint_bitCount_24 rfl rfl rfl ?_
  refine Rj_iload_n (q := 26) d_Jint_bitCount_25 rfl rfl rfl ?_
  refine Rj_iconst (q := 27) d_Jint_bitCount_26 rfl ?_
  refine Rj_iushr (q := 28) (z := z_ush ((z_and (s - (z_and (z_ush s 1) 1431655765)) 858993459) + (z_and (z_ush (s - (z_and (z_ush s 1) 1431655765)) 2) 858993459)) 4) d_Jint_bitCount_27 rfl rfl ?_
  refine Rj_iadd (q := 29) d_Jint_bitCount_28 rfl ?_
  refine Rj_ldcw (q := 32) k_Jint_267 d_Jint_bitCount_29 rfl ?_
  refine Rj_iand (q := 33) (z := z_and (((z_and (s - (z_and (z_ush s 1) 1431655765)) 858993459) + (z_and (z_ush (s - (z_and (z_ush s 1) 1431655765)) 2) 858993459)) + (z_ush ((z_and (s - (z_and (z_ush s 1) 1431655765)) 858993459) + (z_and (z_ush (s - (z_and (z_ush s 1) 1431655765)) 2) 858993459)) 4)) 252645135) d_Jint_bitCount_32 rfl rfl ?_
  refine Rj_istore_n (q := 34) (ls' := [vI (z_and (((z_and (s - (z_and (z_ush s 1) 1431655765)) 858993459) + (z_and (z_ush (s - (z_and (z_ush s 1) 1431655765)) 2) 858993459)) + (z_ush ((z_and (s - (z_and (z_ush s 1) 1431655765)) 858993459) + (z_and (z_ush (s - (z_and (z_ush s 1) 1431655765)) 2) 858993459)) 4)) 252645135)]) d_Jint_bitCount_33 rfl rfl (by decide) rfl ?_
  refine Rj_iload_n (q := 35) d_Jint_bitCount_34 rfl rfl rfl ?_
  refine Rj_iload_n (q := 36) d_Jint_bitCount_35 rfl rfl rfl ?_
  refine Rj_bipush (q := 38) d_Jint_bitCount_36 rfl (by decide +kernel) ?_
  refine Rj_iushr (q := 39) (z := z_ush (z_and (((z_and (s - (z_and (z_ush s 1) 1431655765)) 858993459) + (z_and (z_ush (s - (z_and (z_ush s 1) 1431655765)) 2) 858993459)) + (z_ush ((z_and (s - (z_and (z_ush s 1) 1431655765)) 858993459) + (z_and (z_ush (s - (z_and (z_ush s 1) 1431655765)) 2) 858993459)) 4)) 252645135) 8) d_Jint_bitCount_38 rfl rfl ?_
  refine Rj_iadd (q := 40) d_Jint_bitCount_39 rfl ?_
  refine Rj_istore_n (q := 41) (ls' := [vI ((z_and (((z_and (s - (z_and (z_ush s 1) 1431655765)) 858993459) + (z_and (z_ush (s - (z_and (z_ush s 1) 1431655765)) 2) 858993459)) + (z_ush ((z_and (s - (z_and (z_ush s 1) 1431655765)) 858993459) + (z_and (z_ush (s - (z_and (z_ush s 1) 1431655765)) 2) 858993459)) 4)) 252645135) + (z_ush (z_and (((z_and (s - (z_and (z_ush s 1) 1431655765)) 858993459) + (z_and (z_ush (s - (z_and (z_ush s 1) 1431655765)) 2) 858993459)) + (z_ush ((z_and (s - (z_and (z_ush s 1) 1431655765)) 858993459) + (z_and (z_ush (s - (z_and (z_ush s 1) 1431655765)) 2) 858993459)) 4)) 252645135) 8))]) d_Jint_bitCount_40 rfl rfl (by decide) rfl ?_
  refine Rj_iload_n (q := 42) d_Jint_bitCount_41 rfl rfl rfl ?_
  refine Rj_iload_n (q := 43) d_Jint_bitCount_42 rfl rfl rfl ?_
  refine Rj_bipush (q := 45) d_Jint_bitCount_43 rfl (by decide +kernel) ?_
  refine Rj_iushr (q := 46) (z := z_ush ((z_and (((z_and (s - (z_and (z_ush s 1) 1431655765)) 858993459) + (z_and (z_ush (s - (z_and (z_ush s 1) 1431655765)) 2) 858993459)) + (z_ush ((z_and (s - (z_and (z_ush s 1) 1431655765)) 858993459) + (z_and (z_ush (s - (z_and (z_ush s 1) 1431655765)) 2) 858993459)) 4)) 252645135) + (z_ush (z_and (((z_and (s - (z_and (z_ush s 1) 1431655765)) 858993459) + (z_and (z_ush (s - (z_and (z_ush s 1) 1431655765)) 2) 858993459)) + (z_ush ((z_and (s - (z_and (z_ush s 1) 1431655765)) 858993459) + (z_and (z_ush (s - (z_and (z_ush s 1) 1431655765)) 2) 858993459)) 4)) 252645135) 8)) 16) d_Jint_bitCount_45 rfl rfl ?_
  refine Rj_iadd (q := 47) d_Jint_bitCount_46 rfl ?_
  refine Rj_istore_n (q := 48) (ls' := [vI (((z_and (((z_and (s - (z_and (z_ush s 1) 1431655765)) 858993459) + (z_and (z_ush (s - (z_and (z_ush s 1) 1431655765)) 2) 858993459)) + (z_ush ((z_and (s - (z_and (z_ush s 1) 1431655765)) 858993459) + (z_and (z_ush (s - (z_and (z_ush s 1) 1431655765)) 2) 858993459)) 4)) 252645135) + (z_ush (z_and (((z_and (s - (z_and (z_ush s 1) 1431655765)) 858993459) + (z_and (z_ush (s - (z_and (z_ush s 1) 1431655765)) 2) 858993459)) + (z_ush ((z_and (s - (z_and (z_ush s 1) 1431655765)) 858993459) + (z_and (z_ush (s - (z_and (z_ush s 1) 1431655765)) 2) 858993459)) 4)) 252645135) 8)) + (z_ush ((z_and (((z_and (s - (z_and (z_ush s 1) 1431655765)) 858993459) + (z_and (z_ush (s - (z_and (z_ush s 1) 1431655765)) 2) 858993459)) + (z_ush ((z_and (s - (z_and (z_ush s 1) 1431655765)) 858993459) + (z_and (z_ush (s - (z_and (z_ush s 1) 1431655765)) 2) 858993459)) 4)) 252645135) + (z_ush (z_and (((z_and (s - (z_and (z_ush s 1) 1431655765)) 858993459) + (z_and (z_ush (s - (z_and (z_ush s 1) 1431655765)) 2) 858993459)) + (z_ush ((z_and (s - (z_and (z_ush s 1) 1431655765)) 858993459) + (z_and (z_ush (s - (z_and (z_ush s 1) 1431655765)) 2) 858993459)) 4)) 252645135) 8)) 16))]) d_Jint_bitCount_47 rfl rfl (by decide) rfl ?_
  refine Rj_iload_n (q := 49) d_Jint_bitCount_48 rfl rfl rfl ?_
  refine Rj_bipush (q := 51) d_Jint_bitCount_49 rfl (by decide +kernel) ?_
  refine Rj_iand (q := 52) (z := z_and (((z_and (((z_and (s - (z_and (z_ush s 1) 1431655765)) 858993459) + (z_and (z_ush (s - (z_and (z_ush s 1) 1431655765)) 2) 858993459)) + (z_ush ((z_and (s - (z_and (z_ush s 1) 1431655765)) 858993459) + (z_and (z_ush (s - (z_and (z_ush s 1) 1431655765)) 2) 858993459)) 4)) 252645135) + (z_ush (z_and (((z_and (s - (z_and (z_ush s 1) 1431655765)) 858993459) + (z_and (z_ush (s - (z_and (z_ush s 1) 1431655765)) 2) 858993459)) + (z_ush ((z_and (s - (z_and (z_ush s 1) 1431655765)) 858993459) + (z_and (z_ush (s - (z_and (z_ush s 1) 1431655765)) 2) 858993459)) 4)) 252645135) 8)) + (z_ush ((z_and (((z_and (s - (z_and (z_ush s 1) 1431655765)) 858993459) + (z_and (z_ush (s - (z_and (z_ush s 1) 1431655765)) 2) 858993459)) + (z_ush ((z_and (s - (z_and (z_ush s 1) 1431655765)) 858993459) + (z_and (z_ush (s - (z_and (z_ush s 1) 1431655765)) 2) 858993459)) 4)) 252645135) + (z_ush (z_and (((z_and (s - (z_and (z_ush s 1) 1431655765)) 858993459) + (z_and (z_ush (s - (z_and (z_ush s 1) 1431655765)) 2) 858993459)) + (z_ush ((z_and (s - (z_and (z_ush s 1) 1431655765)) 858993459) + (z_and (z_ush (s - (z_and (z_ush s 1) 1431655765)) 2) 858993459)) 4)) 252645135) 8)) 16)) 63) d_Jint_bitCount_51 rfl rfl ?_
  refine Rj_iret d_Jint_bitCount_52 rfl ?_
  exact fin_I hQ (bc_all hs.1 hs.2)
theorem wrd_64 {S pl : Int → Int} {d ah : Int} (hS : StrOK S) (hd : 0 ≤ d ∧ d < S 0) (hp : PB pl) (ha : 0 ≤ ah ∧ ah ≤ 100) : ∀ j, 0 ≤ j → j ≤ 7 → i64 (wrd S pl d ah j) := by
  intro j j0 j1
  have h0 := hS.1
  have h1 := hS.2.1
  have t := hS.2.2.1 d hd.1 hd.2
  have pp := (pts_bd hS).1
  have pb := hp d hd.1 (by omega)
  have q1 : pl d / pts S ≤ 100000000000000000 := Int.le_trans (Int.ediv_le_ediv (by omega) pb.2) (Int.ediv_le_self _ (by decide))
  have q2 : -100000000000000000 ≤ pl d / pts S := by
    refine (Int.le_ediv_iff_mul_le (by omega)).mpr ?_
    omega
  have q5 := pcn_le (opS S (pts S) pl (S 0).toNat)
  have q6 := jno_rng S d (S 1).toNat
  unfold wrd
  repeat' split
  all_goals exact ⟨by omega, by omega⟩
set_option maxHeartbeats 4000000 in
theorem s_wordOf {μ : Mem} {Q : PV → Mem → Prop} {S lo up dn lk pl : Int → Int} (h : GX μ S lo up dn lk pl) {op d ah : Int} (ho : 0 ≤ op ∧ op ≤ 7) (hd : 0 ≤ d ∧ d < S 0) (ha : 0 ≤ ah ∧ ah ≤ 100) (hQ : Q (vL (wrd S pl d ah op)) μ) : Rj YD y_Bo_wordOf 0 [vA 79, vI op, vI d, vI ah] [] μ Q := by
  obtain ⟨z0, z1, z2, z3, z4, z5, z6, z7⟩ := h.z
  obtain ⟨dt, dsp, tr, sr, br, bp, sc, lr, lq, mr, pr, kr, zk⟩ := h.d hd
  refine Rj_aload_n (q := 1) d_Bo_wordOf_0 rfl rfl rfl ?_
  refine Rj_gr (q := 4) (zd := 59) gD_Bo_22_79 rfl rfl d_Bo_wordOf_1 rfl ?_
  refine Rj_gr (q := 7) (zd := 3) gD_Bo_66_59 rfl rfl d_Bo_wordOf_4 rfl ?_
  refine Rj_astore (q := 9) (ls' := [vA 79, vI op, vI d, vI ah, vA 3]) d_Bo_wordOf_7 rfl (by decide) rfl ?_
  refine Rj_iload_n (q := 10) d_Bo_wordOf_9 rfl rfl rfl ?_
  rcases (show op = 0 ∨ op = 1 ∨ op = 2 ∨ op = 3 ∨ op = 4 ∨ op = 5 ∨ op = 6 ∨ (op < 0 ∨ 6 < op) by omega) with hs10 | hs10 | hs10 | hs10 | hs10 | hs10 | hs10 | hs10
  · refine Rj_tsI (t := 52) d_Bo_wordOf_10 ⟨by omega, by omega⟩ (by omega) (by omega) (by rw [hs10]; rfl) (by decide) ?_
    refine Rj_iload_n (q := 53) d_Bo_wordOf_52 rfl rfl rfl ?_
    refine Rj_i2l (q := 54) d_Bo_wordOf_53 rfl ⟨by omega, by omega⟩ ?_
    refine Rj_lret d_Bo_wordOf_54 rfl ?_
    have eo : op = 0 := by omega
    exact fin_L hQ (by rw [eo]; rfl)
  · refine Rj_tsI (t := 55) d_Bo_wordOf_10 ⟨by omega, by omega⟩ (by omega) (by omega) (by rw [hs10]; rfl) (by decide) ?_
    refine Rj_aload (q := 57) d_Bo_wordOf_55 rfl rfl ?_
    refine Rj_gr (q := 60) (zd := 4) gD_Bo_72_3 rfl rfl d_Bo_wordOf_57 rfl ?_
    refine Rj_iload_n (q := 61) d_Bo_wordOf_60 rfl rfl rfl ?_
    refine Rj_ia (q := 62) (v := tee S d) aD_4 rfl (by omega) dt d_Bo_wordOf_61 rfl ?_
    refine Rj_i2l (q := 63) d_Bo_wordOf_62 rfl ⟨by omega, by omega⟩ ?_
    refine Rj_lret d_Bo_wordOf_63 rfl ?_
    have eo : op = 1 := by omega
    exact fin_L hQ (by rw [eo]; rfl)
  · refine Rj_tsI (t := 64) d_Bo_wordOf_10 ⟨by omega, by omega⟩ (by omega) (by omega) (by rw [hs10]; rfl) (by decide) ?_
    refine Rj_aload (q := 66) d_Bo_wordOf_64 rfl rfl ?_
    refine Rj_gr (q := 69) (zd := 5) gD_Bo_77_3 rfl rfl d_Bo_wordOf_66 rfl ?_
    refine Rj_iload_n (q := 70) d_Bo_wordOf_69 rfl rfl rfl ?_
    refine Rj_ia (q := 71) (v := spn S d) aD_5 rfl (by omega) dsp d_Bo_wordOf_70 rfl ?_
    refine Rj_i2l (q := 72) d_Bo_wordOf_71 rfl ⟨by omega, by omega⟩ ?_
    refine Rj_lret d_Bo_wordOf_72 rfl ?_
    have eo : op = 2 := by omega
    exact fin_L hQ (by rw [eo]; rfl)
  · refine Rj_tsI (t := 73) d_Bo_wordOf_10 ⟨by omega, by omega⟩ (by omega) (by omega) (by rw [hs10]; rfl) (by decide) ?_
    refine Rj_aload_n (q := 74) d_Bo_wordOf_73 rfl rfl rfl ?_
    refine Rj_gr (q := 77) (zd := 59) gD_Bo_22_79 rfl rfl d_Bo_wordOf_74 rfl ?_
    refine Rj_iload_n (q := 78) d_Bo_wordOf_77 rfl rfl rfl ?_
    refine Rj_vo (q := 81) (z := y_Ge_wholeTeeth) (as := [vI d]) (rest := []) (la := [vA 59, vI d]) oD_59_Ge_wholeTeeth ml_Bo_80 mw_Ge_wholeTeeth mv_Ge_wholeTeeth rfl d_Bo_wordOf_78 rfl rfl rfl rfl rfl ?_
    refine s_wholeTeeth h hd ?_
    refine Rj_lret d_Bo_wordOf_81 rfl ?_
    have eo : op = 3 := by omega
    exact fin_L hQ (by rw [eo]; rfl)
  · refine Rj_tsI (t := 82) d_Bo_wordOf_10 ⟨by omega, by omega⟩ (by omega) (by omega) (by rw [hs10]; rfl) (by decide) ?_
    refine Rj_aload_n (q := 83) d_Bo_wordOf_82 rfl rfl rfl ?_
    refine Rj_gr (q := 86) (zd := 59) gD_Bo_22_79 rfl rfl d_Bo_wordOf_83 rfl ?_
    refine Rj_iload_n (q := 87) d_Bo_wordOf_86 rfl rfl rfl ?_
    refine Rj_vo (q := 90) (z := y_Ge_isOpen) (as := [vI d]) (rest := []) (la := [vA 59, vI d]) oD_59_Ge_isOpen ml_Bo_84 mw_Ge_isOpen mv_Ge_isOpen rfl d_Bo_wordOf_87 rfl rfl rfl rfl rfl ?_
    refine s_isOpen h hd ?_
    refine Rj_b_eq (q := 93) (t := 97) d_Bo_wordOf_90 rfl (by decide) (fun c90 => ?_) (fun c90 => ?_)
    · refine Rj_lconst (q := 98) (z := 0) d_Bo_wordOf_97 rfl rfl ?_
      refine Rj_lret d_Bo_wordOf_98 rfl ?_
      have eo : op = 4 := by omega
      exact fin_L hQ (by rw [eo]; show (if opn S (pts S) d (pl d) = true then (1 : Int) else 0) = 0; rw [if_neg (by rw [c90]; decide)])
    · refine Rj_lconst (q := 94) (z := 1) d_Bo_wordOf_93 rfl rfl ?_
      refine Rj_goto (t := 98) d_Bo_wordOf_94 (by decide) ?_
      refine Rj_lret d_Bo_wordOf_98 rfl ?_
      have eo : op = 4 := by omega
      exact fin_L hQ (by rw [eo]; show (if opn S (pts S) d (pl d) = true then (1 : Int) else 0) = 1; rw [if_pos c90])
  · refine Rj_tsI (t := 99) d_Bo_wordOf_10 ⟨by omega, by omega⟩ (by omega) (by omega) (by rw [hs10]; rfl) (by decide) ?_
    refine Rj_aload_n (q := 100) d_Bo_wordOf_99 rfl rfl rfl ?_
    refine Rj_gr (q := 103) (zd := 59) gD_Bo_22_79 rfl rfl d_Bo_wordOf_100 rfl ?_
    refine Rj_vo (q := 106) (z := y_Ge_openSet) (as := []) (rest := []) (la := [vA 59]) oD_59_Ge_openSet ml_Bo_88 mw_Ge_openSet mv_Ge_openSet rfl d_Bo_wordOf_103 rfl rfl rfl rfl rfl ?_
    refine s_openSet h ?_
    have or := opS_rng S (pts S) pl (S 0).toNat (by omega)
    refine Rj_cs (q := 109) (z := y_Jint_bitCount) (as := [vI (opS S (pts S) pl (S 0).toNat)]) (rest := []) (la := [vI (opS S (pts S) pl (S 0).toNat)]) ml_Bo_92 mw_Jint_bitCount ms_Jint_bitCount d_Bo_wordOf_106 rfl rfl rfl rfl rfl ?_
    refine s_J_bitCount or ?_
    have pl_ := pcn_le (opS S (pts S) pl (S 0).toNat)
    refine Rj_i2l (q := 110) d_Bo_wordOf_109 rfl ⟨by omega, by omega⟩ ?_
    refine Rj_lret d_Bo_wordOf_110 rfl ?_
    have eo : op = 5 := by omega
    exact fin_L hQ (by rw [eo]; rfl)
  · refine Rj_tsI (t := 111) d_Bo_wordOf_10 ⟨by omega, by omega⟩ (by omega) (by omega) (by rw [hs10]; rfl) (by decide) ?_
    refine Rj_aload (q := 113) d_Bo_wordOf_111 rfl rfl ?_
    refine Rj_iload_n (q := 114) d_Bo_wordOf_113 rfl rfl rfl ?_
    refine Rj_vo (q := 117) (z := y_Sc_joinsOf) (as := [vI d]) (rest := []) (la := [vA 3, vI d]) oD_3_Sc_joinsOf ml_Bo_98 mw_Sc_joinsOf mv_Sc_joinsOf rfl d_Bo_wordOf_114 rfl rfl rfl rfl rfl ?_
    refine s_joinsOf h hd ?_
    have jr := jno_rng S d (S 1).toNat
    refine Rj_i2l (q := 118) d_Bo_wordOf_117 rfl ⟨by omega, by omega⟩ ?_
    refine Rj_lret d_Bo_wordOf_118 rfl ?_
    have eo : op = 6 := by omega
    exact fin_L hQ (by rw [eo]; rfl)
  · refine Rj_tsO (t := 119) d_Bo_wordOf_10 ⟨by omega, by omega⟩ hs10 (by decide) ?_
    refine Rj_iload_n (q := 120) d_Bo_wordOf_119 rfl rfl rfl ?_
    refine Rj_i2l (q := 121) d_Bo_wordOf_120 rfl ⟨by omega, by omega⟩ ?_
    refine Rj_lret d_Bo_wordOf_121 rfl ?_
    have eo : op = 7 := by omega
    exact fin_L hQ (by rw [eo]; rfl)
