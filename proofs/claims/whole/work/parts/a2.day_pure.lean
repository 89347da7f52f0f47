theorem gD_Di_15_86 : GI YD "DoorsOnCogs$Diary" 15 86 0 (some (some 59)) := ⟨by decide, _, _, _, fl_Di_15, cD_86, by decide, rfl⟩
theorem gD_Di_39_59 : GI YD "DoorsOnCogs$Diary" 39 59 0 (some (some 3)) := ⟨by decide, _, _, _, fl_Di_39, cD_59, by decide, rfl⟩
theorem gD_Di_71_3 : GI YD "DoorsOnCogs$Diary" 71 3 0 none := ⟨by decide, _, _, _, fl_Di_71, cD_3, by decide, rfl⟩
theorem gD_Di_74_59 : GI YD "DoorsOnCogs$Diary" 74 59 1 (some (some 60)) := ⟨by decide, _, _, _, fl_Di_74, cD_59, by decide, rfl⟩
theorem gD_Di_9_86 : GI YD "DoorsOnCogs$Diary" 9 86 5 (some (some 87)) := ⟨by decide, _, _, _, fl_Di_9, cD_86, by decide, rfl⟩
theorem aD_87 : AI YD 87 (.long) 12 := ⟨by decide, cD_87, by decide⟩
theorem gD_Di_27_86 : GI YD "DoorsOnCogs$Diary" 27 86 3 none := ⟨by decide, _, _, _, fl_Di_27, cD_86, by decide, rfl⟩
theorem pD_Di_27_86 : PI YD "DoorsOnCogs$Diary" 27 86 3 none .int := ⟨by decide, _, _, _, fl_Di_27, fp_1_3, cD_86, by decide, rfl⟩
theorem gD_Di_30_86 : GI YD "DoorsOnCogs$Diary" 30 86 4 none := ⟨by decide, _, _, _, fl_Di_30, cD_86, by decide, rfl⟩
theorem pD_Di_30_86 : PI YD "DoorsOnCogs$Diary" 30 86 4 none .int := ⟨by decide, _, _, _, fl_Di_30, fp_1_4, cD_86, by decide, rfl⟩
/-! days: pure; the class's push of a rule -/
/-- places, passed, pushed, refused, wears -/
abbrev DS : Type := (Int → Int) × Int × Int × Int × (Int → Int)
def wrn (S lo up dn : Int → Int) (n d : Int) (w : Int → Int) : Int → Int := fun y => if 0 ≤ y ∧ y < S 0 ∧ lo y = lo d then w y + (((n * pof (pts S) up dn d y).natAbs : Nat) : Int) else w y
def psd (S lo up dn lk : Int → Int) (n d : Int) (σ : DS) : DS := if n = 0 then σ else if 0 < pushR S lo up dn lk σ.1 (pts S) d n then (trn S lo up dn σ.1 (pts S) d n, σ.2.1, σ.2.2.1 + 1, σ.2.2.2.1, wrn S lo up dn n d σ.2.2.2.2) else (σ.1, σ.2.1, σ.2.2.1, σ.2.2.2.1 + 1, σ.2.2.2.2)
def pas (S : Int → Int) (d : Int) (σ : DS) : DS := (σ.1, σ.2.1 + (if opn S (pts S) d (σ.1 d) = true then 1 else 0), σ.2.2)
def cmg (S lo up dn lk : Int → Int) (D : List CLS) (d ah : Int) (σ : DS) : DS := pas S d (if opn S (pts S) d (σ.1 d) = true then σ else psd S lo up dn lk (tfD (wrd S σ.1 d ah) D) d σ)
def cms (S lo up dn lk : Int → Int) (D : List CLS) (g : Int → Int) (N : Int) : Nat → Int → DS → DS
  | 0, _, σ => σ
  | f + 1, i, σ => if i < N then cms S lo up dn lk D g N f (i + 1) (cmg S lo up dn lk D (g i) i σ) else σ
/-- what a day keeps true: kp comings since the places were K, k comings in all -/
def DSI (S : Int → Int) (K kp k : Int) (σ : DS) : Prop := (0 ≤ σ.2.1 ∧ σ.2.1 ≤ k) ∧ (0 ≤ σ.2.2.1 ∧ σ.2.2.1 ≤ k) ∧ (0 ≤ σ.2.2.2.1 ∧ σ.2.2.2.1 ≤ k) ∧ (∀ y, 0 ≤ y → y < 12 → 0 ≤ σ.2.2.2.2 y ∧ σ.2.2.2.2 y ≤ k * 2799360000000) ∧ (∀ d, 0 ≤ d → d < 12 → -(K + kp * 2799360000000) ≤ σ.1 d ∧ σ.1 d ≤ K + kp * 2799360000000) ∧ SB S σ.1
section DAYS
variable {S lo up dn lk : Int → Int} {K kp k n d : Int} {σ : DS}
theorem psd_0 : psd S lo up dn lk 0 d σ = σ := by unfold psd; rw [if_pos rfl]
theorem psd_y (h0 : ¬ n = 0) (h : 0 < pushR S lo up dn lk σ.1 (pts S) d n) : psd S lo up dn lk n d σ = (trn S lo up dn σ.1 (pts S) d n, σ.2.1, σ.2.2.1 + 1, σ.2.2.2.1, wrn S lo up dn n d σ.2.2.2.2) := by unfold psd; rw [if_neg h0, if_pos h]
theorem psd_n (h0 : ¬ n = 0) (h : ¬ 0 < pushR S lo up dn lk σ.1 (pts S) d n) : psd S lo up dn lk n d σ = (σ.1, σ.2.1, σ.2.2.1, σ.2.2.2.1 + 1, σ.2.2.2.2) := by unfold psd; rw [if_neg h0, if_neg h]
theorem DSI.mono (h : DSI S K kp k σ) : DSI S K (kp + 1) (k + 1) σ := by
  obtain ⟨h1, h2, h3, h4, h5, h6⟩ := h
  exact ⟨by omega, by omega, by omega, fun y y0 y1 => by have := h4 y y0 y1; omega, fun y y0 y1 => by have := h5 y y0 y1; omega, h6⟩
theorem psd_I (hS : StrOK S) (hH : Hung S 0 lo up dn lk) (hd : 0 ≤ d ∧ d < S 0) (hn : -60 ≤ n ∧ n ≤ 60) (h : DSI S K kp k σ) : DSI S K (kp + 1) (k + 1) (psd S lo up dn lk n d σ) := by
  by_cases n0 : n = 0
  · rw [n0, psd_0]; exact h.mono
  by_cases pr : 0 < pushR S lo up dn lk σ.1 (pts S) d n
  · rw [psd_y n0 pr]
    have hm := h.mono
    obtain ⟨h1, h2, h3, h4, h5, h6⟩ := id h
    have okp := push_ok hS.1.2 pr
    have bk := PBK_trn (K := K + kp * 2799360000000) hS hH hd hn h5
    refine ⟨hm.1, ⟨?_, ?_⟩, hm.2.2.1, fun y y0 y1 => ?_, fun y y0 y1 => ?_, SB_trn h6 okp.2⟩
    · show 0 ≤ σ.2.2.1 + 1; omega
    · show σ.2.2.1 + 1 ≤ k + 1; omega
    · have := h4 y y0 y1
      show 0 ≤ wrn S lo up dn n d σ.2.2.2.2 y ∧ wrn S lo up dn n d σ.2.2.2.2 y ≤ _
      unfold wrn
      by_cases e : 0 ≤ y ∧ y < S 0 ∧ lo y = lo d
      · rw [if_pos e]
        have ps := (pof_spec hS hH.1 hd ⟨y0, e.2.1⟩ (Hung_lo hH ⟨y0, e.2.1⟩).1 e.2.2.symm).2.2.2.1
        have m := mul_bd hn ps
        omega
      · rw [if_neg e]; omega
    · have := bk y y0 y1
      show _ ≤ trn S lo up dn σ.1 (pts S) d n y ∧ trn S lo up dn σ.1 (pts S) d n y ≤ _
      omega
  · rw [psd_n n0 pr]
    have hm := h.mono
    obtain ⟨h1, h2, h3, h4, h5, h6⟩ := id h
    refine ⟨hm.1, hm.2.1, ⟨?_, ?_⟩, hm.2.2.2.1, hm.2.2.2.2.1, h6⟩
    · show 0 ≤ σ.2.2.2.1 + 1; omega
    · show σ.2.2.2.1 + 1 ≤ k + 1; omega
theorem psd_p (n d : Int) (σ : DS) : (psd S lo up dn lk n d σ).2.1 = σ.2.1 := by
  unfold psd
  split
  · rfl
  · split <;> rfl
theorem cmg_I {D : List CLS} {ah : Int} (hS : StrOK S) (hH : Hung S 0 lo up dn lk) (hd : 0 ≤ d ∧ d < S 0) (h : DSI S K kp k σ) : DSI S K (kp + 1) (k + 1) (cmg S lo up dn lk D d ah σ) := by
  unfold cmg
  have key : ∀ τ : DS, DSI S K (kp + 1) (k + 1) τ → τ.2.1 = σ.2.1 → DSI S K (kp + 1) (k + 1) (pas S d τ) := by
    intro τ ht e
    obtain ⟨h1, h2, h3, h4, h5, h6⟩ := id ht
    refine ⟨?_, h2, h3, h4, h5, h6⟩
    have := h.1
    show 0 ≤ τ.2.1 + (if opn S (pts S) d (τ.1 d) = true then 1 else 0) ∧ τ.2.1 + (if opn S (pts S) d (τ.1 d) = true then 1 else 0) ≤ k + 1
    rw [e]
    split <;> omega
  split
  · exact key _ h.mono rfl
  · exact key _ (psd_I hS hH hd (tfD_60 _ _) h) (psd_p _ _ _)
theorem cms_I {D : List CLS} {g : Int → Int} {N : Int} (hS : StrOK S) (hH : Hung S 0 lo up dn lk) (hg : ∀ i, 0 ≤ i → i < N → 0 ≤ g i ∧ g i < S 0) : ∀ (f : Nat) (i kp k : Int) (σ : DS), 0 ≤ i → i ≤ N → (N - i).toNat < f → DSI S K kp k σ → DSI S K (kp + (N - i)) (k + (N - i)) (cms S lo up dn lk D g N f i σ)
  | 0, i, kp, k, σ, i0, i1, hf, h => absurd hf (by omega)
  | f + 1, i, kp, k, σ, i0, i1, hf, h => by
    show DSI S K _ _ (if i < N then _ else σ)
    by_cases e : i < N
    · rw [if_pos e]
      have q := cms_I (D := D) hS hH hg f (i + 1) (kp + 1) (k + 1) _ (by omega) (by omega) (by omega) (cmg_I (D := D) (ah := i) hS hH (hg i i0 e) h)
      rw [show kp + 1 + (N - (i + 1)) = kp + (N - i) by omega, show k + 1 + (N - (i + 1)) = k + (N - i) by omega] at q
      exact q
    · rw [if_neg e, show kp + (N - i) = kp by omega, show k + (N - i) = k by omega]; exact h
end DAYS
/-- the class's diary -/
def CDS (μ : Mem) (S lo up dn lk : Int → Int) (σ : DS) : Prop := GX μ S lo up dn lk σ.1 ∧ (μ 86 2 = σ.2.1 ∧ μ 86 3 = σ.2.2.1 ∧ μ 86 4 = σ.2.2.2.1) ∧ ∀ y, 0 ≤ y → y < S 0 → μ 87 y * pts S = σ.2.2.2.2 y * μ 63 y
abbrev Wdy (c : Nat) (i : Int) : Prop := c = 9 ∨ (c = 79 ∧ i = 5) ∨ c = 82 ∨ (c = 86 ∧ (i = 2 ∨ i = 3 ∨ i = 4)) ∨ c = 87
theorem abs_sc {a b P m : Int} (hP : 0 ≤ P) (hm : 0 ≤ m) (h : a * P = b * m) : ((a.natAbs : Nat) : Int) * P = ((b.natAbs : Nat) : Int) * m := by
  have e := congrArg Int.natAbs h
  rw [Int.natAbs_mul, Int.natAbs_mul] at e
  have e2 : ((a.natAbs * P.natAbs : Nat) : Int) = ((b.natAbs * m.natAbs : Nat) : Int) := by rw [e]
  rw [Int.natCast_mul, Int.natCast_mul, Int.natAbs_of_nonneg hP, Int.natAbs_of_nonneg hm] at e2
  exact e2
set_option maxHeartbeats 4000000 in
theorem s_wear_49 : ∀ (f : Nat) {μ : Mem} {Q : PV → Mem → Prop} {S lo : Int → Int} {x n d : Int}, ((S 0 - d).toNat < f) → (0 ≤ S 0 ∧ S 0 ≤ 12) → (μ 3 0 = S 0) → (∀ y, 0 ≤ y → y < S 0 → μ 60 y = lo y ∧ (0 ≤ lo y ∧ lo y < 12)) → (∀ y, 0 ≤ y → y < S 0 → -216000 ≤ μ 64 (x * 12 + y) ∧ μ 64 (x * 12 + y) ≤ 216000) → (0 ≤ x ∧ x < S 0) → (-60 ≤ n ∧ n ≤ 60) → (0 ≤ d ∧ d ≤ S 0) → (∀ μ', Fr (fun c _ => c = 87) μ μ' → (∀ y, 0 ≤ y → y < S 0 → μ' 87 y = if d ≤ y ∧ lo y = lo x then μ 87 y + (((n * μ 64 (x * 12 + y)).natAbs : Nat) : Int) else μ 87 y) → Q vU μ') → Rj YD y_Di_pushBy 49 [vA 86, vI n, vI x, vI d] [] μ Q := by
  intro f
  induction f with
  | zero => intro μ Q S lo x n d hf hS0 hD hlo hst hx hn hd hk; exact absurd hf (by omega)
  | succ f ih =>
    intro μ Q S lo x n d hf hS0 hD hlo hst hx hn hd hk
    have lx := hlo x hx.1 hx.2
    refine Rj_iload_n (q := 50) d_Di_pushBy_49 rfl rfl rfl ?_
    refine Rj_aload_n (q := 51) d_Di_pushBy_50 rfl rfl rfl ?_
    refine Rj_gr (q := 54) (zd := 59) gD_Di_15_86 rfl rfl d_Di_pushBy_51 rfl ?_
    refine Rj_gr (q := 57) (zd := 3) gD_Di_39_59 rfl rfl d_Di_pushBy_54 rfl ?_
    refine Rj_gi (q := 60) (ki := 0) (v := μ 3 0) gD_Di_71_3 rfl rfl rfl d_Di_pushBy_57 rfl ?_
    refine Rj_icmp_ge (q := 63) (t := 114) d_Di_pushBy_60 rfl (by decide) ⟨by omega, by omega⟩ ⟨by omega, by omega⟩ (fun c60 => ?_) (fun c60 => ?_)
    · refine Rj_vret d_Di_pushBy_114 rfl ?_
      exact hk μ (Fr.refl _ _) (fun y y1 y2 => by rw [if_neg (by omega)])
    · have hlt : d < S 0 := by omega
      have ld := hlo d hd.1 hlt
      have m1 := mul_bd hn (hst d hd.1 hlt)
      refine Rj_aload_n (q := 64) d_Di_pushBy_63 rfl rfl rfl ?_
      refine Rj_gr (q := 67) (zd := 59) gD_Di_15_86 rfl rfl d_Di_pushBy_64 rfl ?_
      refine Rj_gr (q := 70) (zd := 60) gD_Di_74_59 rfl rfl d_Di_pushBy_67 rfl ?_
      refine Rj_iload_n (q := 71) d_Di_pushBy_70 rfl rfl rfl ?_
      refine Rj_ia (q := 72) (v := μ 60 d) aD_60 rfl (by omega) rfl d_Di_pushBy_71 rfl ?_
      refine Rj_aload_n (q := 73) d_Di_pushBy_72 rfl rfl rfl ?_
      refine Rj_gr (q := 76) (zd := 59) gD_Di_15_86 rfl rfl d_Di_pushBy_73 rfl ?_
      refine Rj_gr (q := 79) (zd := 60) gD_Di_74_59 rfl rfl d_Di_pushBy_76 rfl ?_
      refine Rj_iload_n (q := 80) d_Di_pushBy_79 rfl rfl rfl ?_
      refine Rj_ia (q := 81) (v := μ 60 x) aD_60 rfl (by omega) rfl d_Di_pushBy_80 rfl ?_
      refine Rj_icmp_ne (q := 84) (t := 108) d_Di_pushBy_81 rfl (by decide) ⟨by omega, by omega⟩ ⟨by omega, by omega⟩ (fun c81 => ?_) (fun c81 => ?_)
      · refine Rj_iinc (q := 111) (ls' := [vA 86, vI n, vI x, vI (d + 1)]) d_Di_pushBy_108 rfl rfl (by decide) rfl ?_
        refine Rj_goto (t := 49) d_Di_pushBy_111 (by decide) ?_
        refine ih (μ := μ) (by omega) hS0 hD hlo hst hx hn (by omega) (fun m f q => hk m (Fr.trans (Fr.refl _ _) f) (fun y y1 y2 => ?_))
        rw [q y y1 y2]
        by_cases e2 : d + 1 ≤ y ∧ lo y = lo x
        · rw [if_pos e2, if_pos ⟨by omega, e2.2⟩]
        · rw [if_neg e2, if_neg (fun q => e2 ⟨by
            by_cases e : y = d
            · subst e; omega
            · omega, q.2⟩)]
      · refine Rj_aload_n (q := 85) d_Di_pushBy_84 rfl rfl rfl ?_
        refine Rj_gr (q := 88) (zd := 87) gD_Di_9_86 rfl rfl d_Di_pushBy_85 rfl ?_
        refine Rj_iload_n (q := 89) d_Di_pushBy_88 rfl rfl rfl ?_
        refine Rj_dup2 (q := 90) d_Di_pushBy_89 rfl (by intro h; cases h) (by intro h; cases h) ?_
        refine Rj_la (q := 91) (v := μ 87 d) aD_87 rfl (by omega) rfl d_Di_pushBy_90 rfl ?_
        refine Rj_iload_n (q := 92) d_Di_pushBy_91 rfl rfl rfl ?_
        refine Rj_i2l (q := 93) d_Di_pushBy_92 rfl ⟨by omega, by omega⟩ ?_
        refine Rj_aload_n (q := 94) d_Di_pushBy_93 rfl rfl rfl ?_
        refine Rj_gr (q := 97) (zd := 59) gD_Di_15_86 rfl rfl d_Di_pushBy_94 rfl ?_
        refine Rj_iload_n (q := 98) d_Di_pushBy_97 rfl rfl rfl ?_
        refine Rj_iload_n (q := 99) d_Di_pushBy_98 rfl rfl rfl ?_
        refine Rj_vo (q := 102) (z := y_Ge_stepOf) (as := [vI x, vI d]) (rest := [vL n, vL (μ 87 d), vI d, vA 87]) (la := [vA 59, vI x, vI d]) oD_59_Ge_stepOf ml_Di_78 mw_Ge_stepOf mv_Ge_stepOf rfl d_Di_pushBy_99 rfl rfl rfl rfl rfl ?_
        refine Rj_aload_n (q := 1) d_Ge_stepOf_0 rfl rfl rfl ?_
        refine Rj_gr (q := 4) (zd := 64) gD_Ge_25_59 rfl rfl d_Ge_stepOf_1 rfl ?_
        refine Rj_iload_n (q := 5) d_Ge_stepOf_4 rfl rfl rfl ?_
        refine Rj_bipush (q := 7) d_Ge_stepOf_5 rfl (by decide +kernel) ?_
        refine Rj_imul (q := 8) d_Ge_stepOf_7 rfl ?_
        refine Rj_iload_n (q := 9) d_Ge_stepOf_8 rfl rfl rfl ?_
        refine Rj_iadd (q := 10) d_Ge_stepOf_9 rfl ?_
        refine Rj_la (q := 11) (v := μ 64 ((x * 12) + d)) aD_64 rfl (by omega) rfl d_Ge_stepOf_10 rfl ?_
        refine Rj_lret d_Ge_stepOf_11 rfl ?_
        refine Rj_lmul (q := 103) d_Di_pushBy_102 rfl ?_
        refine Rj_cs (q := 106) (z := y_Jmath_abs) (as := [vL (n * (μ 64 ((x * 12) + d)))]) (rest := [vL (μ 87 d), vI d, vA 87]) (la := [vL (n * (μ 64 ((x * 12) + d))), vU]) ml_Di_82 mw_Jmath_abs ms_Jmath_abs d_Di_pushBy_103 rfl rfl rfl rfl rfl ?_
        refine s_J_abs (by omega) ?_
        refine Rj_ladd (q := 107) d_Di_pushBy_106 rfl ?_
        refine Rj_lst (q := 108) aD_87 rfl (by omega) d_Di_pushBy_107 rfl ?_
        refine Rj_iinc (q := 111) (ls' := [vA 86, vI n, vI x, vI (d + 1)]) d_Di_pushBy_108 rfl rfl (by decide) rfl ?_
        refine Rj_goto (t := 49) d_Di_pushBy_111 (by decide) ?_
        refine ih (μ := (mset μ 87 d ((μ 87 d) + (((n * (μ 64 ((x * 12) + d))).natAbs : Nat) : Int)))) (by omega) hS0 hD hlo hst hx hn (by omega) (fun m f q => hk m (Fr.trans (Fr.put (Fr.refl _ _) rfl) f) (fun y y1 y2 => ?_))
        rw [q y y1 y2]
        by_cases e : y = d
        · subst e
          rw [if_neg (by omega), mset_same, if_pos ⟨by omega, by omega⟩]
        · show (if _ then mset μ 87 d _ 87 y + (((n * μ 64 (x * 12 + y)).natAbs : Nat) : Int) else mset μ 87 d _ 87 y) = _
          rw [mset_ne _ _ _ _ _ e]
          by_cases e2 : d + 1 ≤ y ∧ lo y = lo x
          · rw [if_pos e2, if_pos ⟨by omega, e2.2⟩]
          · rw [if_neg e2, if_neg (fun q => e2 ⟨by omega, q.2⟩)]
set_option maxHeartbeats 4000000 in
theorem s_pushBy {μ : Mem} {Q : PV → Mem → Prop} {S lo up dn lk : Int → Int} {σ : DS} {K kp k x n : Int} (hC : CDS μ S lo up dn lk σ) (hI : DSI S K kp k σ) (hk : k ≤ 5000) (hK : K + kp * 2799360000000 + 2799360000000 ≤ 100000000000000000) (hx : 0 ≤ x ∧ x < S 0) (hn : -60 ≤ n ∧ n ≤ 60) (hQ : ∀ μ', Fr Wdy μ μ' → CDS μ' S lo up dn lk (psd S lo up dn lk n x σ) → Q vU μ') : Rj YD y_Di_pushBy 0 [vA 86, vI n, vI x] [] μ Q := by
  obtain ⟨h, ⟨k2, k3, k4⟩, hw⟩ := id hC
  obtain ⟨z0, z1, z2, z3, z4, z5, z6, z7⟩ := h.z
  have i1 := hI.1
  have i2 := hI.2.1
  have i3 := hI.2.2.1
  have prg := pushR_rng (S := S) (lo := lo) (up := up) (dn := dn) (lk := lk) (pl := σ.1) (P := pts S) (p := x) (n := n) z0.2
  refine Rj_iload_n (q := 1) d_Di_pushBy_0 rfl rfl rfl ?_
  refine Rj_if_ne (q := 4) (t := 5) d_Di_pushBy_1 rfl (by decide) ⟨by omega, by omega⟩ (fun c1 => ?_) (fun c1 => ?_)
  · refine Rj_aload_n (q := 6) d_Di_pushBy_5 rfl rfl rfl ?_
    refine Rj_gr (q := 9) (zd := 59) gD_Di_15_86 rfl rfl d_Di_pushBy_6 rfl ?_
    refine Rj_iload_n (q := 10) d_Di_pushBy_9 rfl rfl rfl ?_
    refine Rj_iload_n (q := 11) d_Di_pushBy_10 rfl rfl rfl ?_
    refine Rj_vo (q := 14) (z := y_Ge_tryPush) (as := [vI x, vI n]) (rest := []) (la := [vA 59, vI x, vI n]) oD_59_Ge_tryPush ml_Di_64 mw_Ge_tryPush mv_Ge_tryPush rfl d_Di_pushBy_11 rfl rfl rfl rfl rfl ?_
    refine s_tryPush h hx hn ?_
    refine Rj_if_gt (q := 17) (t := 28) d_Di_pushBy_14 rfl (by decide) ⟨by omega, by omega⟩ (fun c14 => ?_) (fun c14 => ?_)
    · refine Rj_aload_n (q := 29) d_Di_pushBy_28 rfl rfl rfl ?_
      refine Rj_gr (q := 32) (zd := 59) gD_Di_15_86 rfl rfl d_Di_pushBy_29 rfl ?_
      refine Rj_iload_n (q := 33) d_Di_pushBy_32 rfl rfl rfl ?_
      refine Rj_iload_n (q := 34) d_Di_pushBy_33 rfl rfl rfl ?_
      refine Rj_vov (q := 37) (z := y_Ge_turnSet) (as := [vI x, vI n]) (rest := []) (la := [vA 59, vI x, vI n]) oD_59_Ge_turnSet ml_Di_68 mw_Ge_turnSet mv_Ge_turnSet rfl d_Di_pushBy_34 rfl rfl rfl rfl rfl ?_
      have pr : 0 < pushR S lo up dn lk σ.1 (pts S) x n := c14
      have okp := push_ok z0.2 pr
      have lkz : lk x = 0 := (h.2.2.1.2 x hx.1 hx.2).1.resolve_right okp.1
      have bkn := PBK_trn (p := x) (n := n) (K := K + kp * 2799360000000) h.1 h.2.2.1 hx hn hI.2.2.2.2.1
      refine s_turnSet h hx hn lkz (fun d d0 d1 => by have := bkn d d0 d1; omega) (fun m34 f34 g34 => ?_)
      refine Rj_aload_n (q := 38) d_Di_pushBy_37 rfl rfl rfl ?_
      refine Rj_dup (q := 39) d_Di_pushBy_38 rfl (by intro h; cases h) ?_
      refine Rj_gi (q := 42) (ki := 3) (v := σ.2.2.1) gD_Di_27_86 rfl rfl ((f34 86 3 (show ¬ (86 : Nat) = 9 by decide)).trans k3) d_Di_pushBy_39 rfl ?_
      refine Rj_iconst (q := 43) d_Di_pushBy_42 rfl ?_
      refine Rj_iadd (q := 44) d_Di_pushBy_43 rfl ?_
      refine Rj_pi (q := 47) (ki := 3) pD_Di_27_86 rfl rfl d_Di_pushBy_44 rfl ?_
      refine Rj_iconst (q := 48) d_Di_pushBy_47 rfl ?_
      refine Rj_istore_n (q := 49) (ls' := [vA 86, vI n, vI x, vI 0]) d_Di_pushBy_48 rfl rfl (by decide) rfl ?_
      rw [psd_y c1 pr] at hQ
      have r34 : ∀ c, c ≠ 9 → m34 c = μ c := fun c h => f34.row (fun i q => h q)
      refine s_wear_49 (μ := (mset m34 86 3 (σ.2.2.1 + 1))) (S := S) (lo := lo) _ (Nat.lt_succ_self _) z0 (show m34 3 0 = S 0 by rw [r34 3 (by decide)]; exact z2) (fun y y1 y2 => ⟨(g34.d ⟨y1, y2⟩).2.2.2.2.2.2.2.2.1, (g34.d ⟨y1, y2⟩).2.2.2.2.2.2.2.1⟩) (fun y y1 y2 => g34.stb hx ⟨y1, y2⟩) hx hn (by omega) (fun m f q => ?_)
      refine hQ m ?_ ⟨?_, ⟨?_, ?_, ?_⟩, fun y y0 y1 => ?_⟩
      · exact (Fr.wide f34 (fun c i q => Or.inl q)).trans (Fr.trans (Fr.put (Fr.refl _ _) (by omega)) (Fr.wide f (fun c i q => by omega)))
      · exact GX.keep (g34.keep (fun c i q => mset_o (μ := m34) (c := 86) (i := 3) (v := σ.2.2.1 + 1) (by unfold gxc at q; omega))) (fun c i q => f c i (by unfold gxc at q; omega))
      · rw [f 86 2 (show ¬ (86 : Nat) = 87 by decide)]; show m34 86 2 = _; rw [r34 86 (by decide)]; exact k2
      · rw [f 86 3 (show ¬ (86 : Nat) = 87 by decide)]; rfl
      · rw [f 86 4 (show ¬ (86 : Nat) = 87 by decide)]; show m34 86 4 = _; rw [r34 86 (by decide)]; exact k4
      · rw [q y y0 y1, f 63 y (show ¬ (63 : Nat) = 87 by decide)]
        show (if 0 ≤ y ∧ lo y = lo x then m34 87 y + (((n * m34 64 (x * 12 + y)).natAbs : Nat) : Int) else m34 87 y) * pts S = wrn S lo up dn n x σ.2.2.2.2 y * m34 63 y
        rw [r34 87 (by decide), r34 64 (by decide), r34 63 (by decide)]
        unfold wrn
        have w0 := hw y y0 y1
        by_cases e : lo y = lo x
        · rw [if_pos ⟨y0, e⟩, if_pos ⟨y0, y1, e⟩]
          have sp := (h.st hx ⟨y0, y1⟩ e lkz).1
          have br := (h.d ⟨y0, y1⟩).2.2.2.2.1
          have := abs_sc (a := n * μ 64 (x * 12 + y)) (b := n * pof (pts S) up dn x y) (P := pts S) (m := μ 63 y) (by omega) (by omega) (by rw [Int.mul_assoc, sp, Int.mul_assoc])
          rw [Int.add_mul, Int.add_mul, this, w0]
        · rw [if_neg (fun q => e q.2), if_neg (fun q => e q.2.2)]; exact w0
    · refine Rj_aload_n (q := 18) d_Di_pushBy_17 rfl rfl rfl ?_
      refine Rj_dup (q := 19) d_Di_pushBy_18 rfl (by intro h; cases h) ?_
      refine Rj_gi (q := 22) (ki := 4) (v := σ.2.2.2.1) gD_Di_30_86 rfl rfl k4 d_Di_pushBy_19 rfl ?_
      refine Rj_iconst (q := 23) d_Di_pushBy_22 rfl ?_
      refine Rj_iadd (q := 24) d_Di_pushBy_23 rfl ?_
      refine Rj_pi (q := 27) (ki := 4) pD_Di_30_86 rfl rfl d_Di_pushBy_24 rfl ?_
      refine Rj_vret d_Di_pushBy_27 rfl ?_
      rw [psd_n c1 (by omega)] at hQ
      exact hQ _ (Fr.put (Fr.refl _ _) (by unfold Wdy; omega)) ⟨h.keep (fun c i q => mset_o (by unfold gxc at q; omega)), ⟨k2, k3, rfl⟩, hw⟩
  · refine Rj_vret d_Di_pushBy_4 rfl ?_
    rw [c1, psd_0] at hQ
    exact hQ μ (Fr.refl _ _) hC
