/-! System.arraycopy from the beginning of one array to the beginning of another -/
def mcpy (μ : Mem) (d c : Nat) (n : Int) : Mem := fun c' i => if c' = d ∧ 0 ≤ i ∧ i < n then μ c i else μ c' i
theorem mcpy_nc (μ : Mem) (d c : Nat) (n : Int) (e : Nat) (h : e ≠ d) : mcpy μ d c n e = μ e := by
  funext j; simp [mcpy, h]
theorem mcpy_in (μ : Mem) (d c : Nat) (n i : Int) (h0 : 0 ≤ i) (h1 : i < n) : mcpy μ d c n d i = μ c i := by simp [mcpy, h0, h1]
theorem cpy_fun {α : Type} {h : Int → α} {f g : Int → Int} {n : Int} (h0 : 0 ≤ n) (h1 : n ≤ 2147483647) : va_cpy (fun j : Nat => h (f j)) (fun j : Nat => h (g j)) (Int32.ofInt 0).toNatClampNeg (Int32.ofInt 0).toNatClampNeg (Int32.ofInt n).toNatClampNeg = fun j : Nat => h (if 0 ≤ (j : Int) ∧ (j : Int) < n then f j else g j) := by
  funext j
  unfold va_cpy
  rw [o32_clamp (by decide) (by decide), o32_clamp h0 h1]
  by_cases e : (j : Int) < n
  · rw [if_pos ⟨by omega, by omega⟩, if_pos ⟨by omega, e⟩]
    simp
  · rw [if_neg (by omega), if_neg (by omega)]
theorem w_cpy_native : Cond.native arraycopyName ∈ lw_tbl := in_tab3 _ (List.mem_of_getElem? (i := 115) rfl)
theorem w_cpy_static : Cond.static arraycopyName ∈ lw_tbl := in_tab3 _ (List.mem_of_getElem? (i := 114) rfl)
theorem w_cpy_init : Cond.initialized "java/lang/System" ∈ lw_tbl := in_tab1 _ (List.mem_of_getElem? (i := 18) rfl)
theorem ml_Sc_71 : Cond.methodLink "DoorsOnCogs$Scene" 71 arraycopyName ∈ lw_tbl := in_tab3 _ (List.mem_of_getElem? (i := 113) rfl)
theorem ml_Ge_144 : Cond.methodLink "DoorsOnCogs$Gears" 144 arraycopyName ∈ lw_tbl := in_tab5 _ (List.mem_of_getElem? (i := 85) rfl)
section COPY
variable {Y : Ly} {y : Mt} {pc q : Nat} {ls : List PV} {μ : Mem} {Q : PV → Mem → Prop}
theorem Rj_cpyi {idx c d n0 n1 : Nat} {zc zd n : Int} (hlk : Cond.methodLink y.1.cls idx arraycopyName ∈ lw_tbl) (g0 : AI Y c .int n0) (g1 : AI Y d .int n1) (hzc : zc.toNat = c) (hzd : zd.toNat = d) (hn : 0 ≤ n) (h0 : n ≤ (n0 : Int)) (h1 : n ≤ (n1 : Int)) (hf : 1 ≤ y.2.2.2.2.1) (hw : 48 ≤ y.2.2.2.2.2) (hd : decode y.2.1 pc = .ok (.invokestatic idx, 3)) (hq : pc + 3 = q) (kk : Rj Y y q ls [] (mcpy μ d c n) Q) : Rj Y y pc ls [vI n, vI 0, vA zd, vI 0, vA zc] μ Q := by
  subst hq; subst hzc; subst hzd
  intro l p e s m args below meth c G H locs la hC hP hS hl
  obtain ⟨hx, hb, hr, hml, hown, hlkk, hSW⟩ := id hC
  have e0 := wld_get (G := G) (μ := μ) g0.1
  have e1 := wld_get (G := G) (μ := μ) g1.1
  rw [wC_arr g0.2.1] at e0
  rw [wC_arr g1.2.1] at e1
  have hn0 := g0.2.2
  have nn : n ≤ 2147483647 := by omega
  refine va_copyi hx hb (hml.trans hl.1.symm) hown (hSW.1 _ hlk rfl _) (hSW.1 _ w_cpy_native rfl _) (hSW.1 _ w_cpy_static rfl _) (hSW.1 _ w_cpy_init rfl _) ((hSW.2.1.2 _ _ _ g0.1 g0.2.1).app (hSW.2.1.2 _ _ _ g1.1 g1.2.1)) hP (wld_D hSW.2.2.1) hS _ _ 0 1 e0 e1 rfl rfl rfl ?_ ?_ ?_ ?_ ?_ (fun i _ => rfl) hf ?_ hd (fun H1 locs1 hP1 hD1 hS1 => ?_)
  · decide
  · decide
  · rw [show (0 : Int32) = Int32.ofInt 0 from rfl, o32_lt ⟨by omega, nn⟩ (by decide)]; omega
  · show (Int32.ofInt 0).toNatClampNeg + (Int32.ofInt n).toNatClampNeg ≤ n0
    rw [o32_clamp (by decide) (by decide), o32_clamp hn nn]; omega
  · show (Int32.ofInt 0).toNatClampNeg + (Int32.ofInt n).toNatClampNeg ≤ n1
    rw [o32_clamp (by decide) (by decide), o32_clamp hn nn]; omega
  · show 0 + (nativeFrameWords "java/lang/System" "arraycopy" 5 + 11) ≤ y.2.2.2.2.2
    have : nativeFrameWords "java/lang/System" "arraycopy" 5 = 7 := by decide +kernel
    omega
  · rw [wld_set (ν := mcpy μ zd.toNat zc.toNat n) g1.1 (by rw [wC_arr g1.2.1]; exact congrArg (fun g => Sum.inl (_, n1, Sum.inl g)) ((cpy_fun (h := Int32.ofInt) hn nn).trans (by funext j; simp [mcpy]))) (fun j hj => mcpy_nc _ _ _ _ _ hj)] at hP1
    exact kk l p e s m args below meth c G H1 locs1 la hC hP1 hS1 hl
theorem Rj_cpyl {idx c d n0 n1 : Nat} {zc zd n : Int} (hlk : Cond.methodLink y.1.cls idx arraycopyName ∈ lw_tbl) (g0 : AI Y c .long n0) (g1 : AI Y d .long n1) (hzc : zc.toNat = c) (hzd : zd.toNat = d) (hn : 0 ≤ n) (h0 : n ≤ (n0 : Int)) (h1 : n ≤ (n1 : Int)) (hf : 1 ≤ y.2.2.2.2.1) (hw : 48 ≤ y.2.2.2.2.2) (hd : decode y.2.1 pc = .ok (.invokestatic idx, 3)) (hq : pc + 3 = q) (kk : Rj Y y q ls [] (mcpy μ d c n) Q) : Rj Y y pc ls [vI n, vI 0, vA zd, vI 0, vA zc] μ Q := by
  subst hq; subst hzc; subst hzd
  intro l p e s m args below meth c G H locs la hC hP hS hl
  obtain ⟨hx, hb, hr, hml, hown, hlkk, hSW⟩ := id hC
  have e0 := wld_get (G := G) (μ := μ) g0.1
  have e1 := wld_get (G := G) (μ := μ) g1.1
  rw [wC_arr g0.2.1] at e0
  rw [wC_arr g1.2.1] at e1
  have hn0 := g0.2.2
  have nn : n ≤ 2147483647 := by omega
  refine va_copyl hx hb (hml.trans hl.1.symm) hown (hSW.1 _ hlk rfl _) (hSW.1 _ w_cpy_native rfl _) (hSW.1 _ w_cpy_static rfl _) (hSW.1 _ w_cpy_init rfl _) ((hSW.2.1.2 _ _ _ g0.1 g0.2.1).app (hSW.2.1.2 _ _ _ g1.1 g1.2.1)) hP (wld_D hSW.2.2.1) hS _ _ 0 1 e0 e1 rfl rfl rfl ?_ ?_ ?_ ?_ ?_ (fun i _ => rfl) hf ?_ hd (fun H1 locs1 hP1 hD1 hS1 => ?_)
  · decide
  · decide
  · rw [show (0 : Int32) = Int32.ofInt 0 from rfl, o32_lt ⟨by omega, nn⟩ (by decide)]; omega
  · show (Int32.ofInt 0).toNatClampNeg + (Int32.ofInt n).toNatClampNeg ≤ n0
    rw [o32_clamp (by decide) (by decide), o32_clamp hn nn]; omega
  · show (Int32.ofInt 0).toNatClampNeg + (Int32.ofInt n).toNatClampNeg ≤ n1
    rw [o32_clamp (by decide) (by decide), o32_clamp hn nn]; omega
  · show 0 + (nativeFrameWords "java/lang/System" "arraycopy" 5 + 11) ≤ y.2.2.2.2.2
    have : nativeFrameWords "java/lang/System" "arraycopy" 5 = 7 := by decide +kernel
    omega
  · rw [wld_set (ν := mcpy μ zd.toNat zc.toNat n) g1.1 (by rw [wC_arr g1.2.1]; exact congrArg (fun g => Sum.inl (_, n1, Sum.inr (Sum.inl g))) ((cpy_fun (h := Int64.ofInt) hn nn).trans (by funext j; simp [mcpy]))) (fun j hj => mcpy_nc _ _ _ _ _ hj)] at hP1
    exact kk l p e s m args below meth c G H1 locs1 la hC hP1 hS1 hl
end COPY
