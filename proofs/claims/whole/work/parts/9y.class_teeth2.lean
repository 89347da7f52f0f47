/-! the class: a rule run, clause by clause -/
set_option maxHeartbeats 4000000 in
theorem s_teeth_20 {μ : Mem} {Q : PV → Mem → Prop} {r d ah N i v : Int} (hr : 0 ≤ r ∧ r < 6) (hN : μ 81 r = N) (hN4 : N ≤ 400) (hi : 0 ≤ i ∧ i < N) (hv : i64 v) (h80 : μ 80 (401 * r + i) = 20) (hS : SST μ [v]) (hQ : ∀ μ', Fr Wsk μ μ' → Q (vI (hld v)) μ') : Rj YD y_Bo_teethFor 29 [vA 79, vI r, vI d, vI ah, vI (r * 401), vI i] [] μ Q := by
  have h80w : μ 80 (r * 401 + i) = 20 := by rw [show r * 401 + i = 401 * r + i by omega]; exact h80
  refine Rj_iload (q := 31) d_Bo_teethFor_29 rfl rfl ?_
  refine Rj_aload_n (q := 32) d_Bo_teethFor_31 rfl rfl rfl ?_
  refine Rj_gr (q := 35) (zd := 81) gD_Bo_15_79 rfl rfl d_Bo_teethFor_32 rfl ?_
  refine Rj_iload_n (q := 36) d_Bo_teethFor_35 rfl rfl rfl ?_
  refine Rj_ia (q := 37) (v := N) aD_81 rfl (by omega) hN d_Bo_teethFor_36 rfl ?_
  refine Rj_icmp_ge (q := 40) (t := 180) d_Bo_teethFor_37 rfl (by decide) ⟨by omega, by omega⟩ ⟨by omega, by omega⟩ (fun c37 => ?_) (fun c37 => ?_)
  · exact absurd c37 (by omega)
  · refine Rj_aload_n (q := 41) d_Bo_teethFor_40 rfl rfl rfl ?_
    refine Rj_gr (q := 44) (zd := 80) gD_Bo_11_79 rfl rfl d_Bo_teethFor_41 rfl ?_
    refine Rj_iload (q := 46) d_Bo_teethFor_44 rfl rfl ?_
    refine Rj_iload (q := 48) d_Bo_teethFor_46 rfl rfl ?_
    refine Rj_iadd (q := 49) d_Bo_teethFor_48 rfl ?_
    refine Rj_ia (q := 50) (v := 20) aD_80 rfl (by omega) h80w d_Bo_teethFor_49 rfl ?_
    refine Rj_istore (q := 52) (ls' := [vA 79, vI r, vI d, vI ah, vI (r * 401), vI i, vI 20]) d_Bo_teethFor_50 rfl (by decide) rfl ?_
    refine Rj_iload (q := 54) d_Bo_teethFor_52 rfl rfl ?_
    refine Rj_bipush (q := 56) d_Bo_teethFor_54 rfl (by decide +kernel) ?_
    refine Rj_icmp_lt (q := 59) (t := 72) d_Bo_teethFor_56 rfl (by decide) (by decide) (by decide) (fun _ => ?_) (fun c => absurd c (by decide))
    refine Rj_iload (q := 74) d_Bo_teethFor_72 rfl rfl ?_
    refine Rj_bipush (q := 76) d_Bo_teethFor_74 rfl (by decide +kernel) ?_
    refine Rj_icmp_gt (q := 79) (t := 94) d_Bo_teethFor_76 rfl (by decide) (by decide) (by decide) (fun _ => ?_) (fun c => absurd c (by decide))
    refine Rj_iload (q := 96) d_Bo_teethFor_94 rfl rfl ?_
    refine Rj_bipush (q := 98) d_Bo_teethFor_96 rfl (by decide +kernel) ?_
    refine Rj_icmp_ne (q := 101) (t := 114) d_Bo_teethFor_98 rfl (by decide) (by decide) (by decide) (fun _ => ?_) (fun c => absurd c (by decide))
    refine Rj_iload (q := 116) d_Bo_teethFor_114 rfl rfl ?_
    refine Rj_bipush (q := 118) d_Bo_teethFor_116 rfl (by decide +kernel) ?_
    refine Rj_icmp_ge (q := 121) (t := 145) d_Bo_teethFor_118 rfl (by decide) (by decide) (by decide) (fun _ => ?_) (fun c => absurd c (by decide))
    refine Rj_iload (q := 147) d_Bo_teethFor_145 rfl rfl ?_
    refine Rj_bipush (q := 149) d_Bo_teethFor_147 rfl (by decide +kernel) ?_
    refine Rj_icmp_eq (q := 152) (t := 161) d_Bo_teethFor_149 rfl (by decide) (by decide) (by decide) (fun _ => ?_) (fun c => absurd c (by decide))
    refine Rj_aload_n (q := 162) d_Bo_teethFor_161 rfl rfl rfl ?_
    refine Rj_vo (q := 165) (z := y_Bo_take) (as := []) (rest := []) (la := [vA 79]) oD_79_Bo_take ml_Bo_41 mw_Bo_take mv_Bo_take rfl d_Bo_teethFor_162 rfl rfl rfl rfl rfl ?_
    refine s_take hS (by simp) (fun m162 fm162 sm162 => ?_)
    have fr162 : Fr Wsk μ m162 := fm162
    refine Rj_cs (q := 168) (z := y_Bo_held) (as := [vL v]) (rest := []) (la := [vL v, vU]) ml_Bo_49 mw_Bo_held ms_Bo_held d_Bo_teethFor_165 rfl rfl rfl rfl rfl ?_
    refine s_held hv ?_
    refine Rj_iret d_Bo_teethFor_168 rfl ?_
    exact hQ _ fr162
set_option maxHeartbeats 4000000 in
theorem s_teeth_21 {μ : Mem} {Q : PV → Mem → Prop} {r d ah N i v : Int} (hr : 0 ≤ r ∧ r < 6) (hN : μ 81 r = N) (hN4 : N ≤ 400) (hi : 0 ≤ i ∧ i < N) (hv : i64 v) {w : Int} (hw : i64 w) (h80 : μ 80 (401 * r + i) = 21) (hS : SST μ [w, v]) (h1 : ¬ w = 0 → ∀ μ', Fr Wsk μ μ' → Q (vI (hld v)) μ') (h0 : w = 0 → ∀ μ', Fr Wsk μ μ' → SST μ' [] → Rj YD y_Bo_teethFor 29 [vA 79, vI r, vI d, vI ah, vI (r * 401), vI (i + 1)] [] μ' Q) : Rj YD y_Bo_teethFor 29 [vA 79, vI r, vI d, vI ah, vI (r * 401), vI i] [] μ Q := by
  have h80w : μ 80 (r * 401 + i) = 21 := by rw [show r * 401 + i = 401 * r + i by omega]; exact h80
  refine Rj_iload (q := 31) d_Bo_teethFor_29 rfl rfl ?_
  refine Rj_aload_n (q := 32) d_Bo_teethFor_31 rfl rfl rfl ?_
  refine Rj_gr (q := 35) (zd := 81) gD_Bo_15_79 rfl rfl d_Bo_teethFor_32 rfl ?_
  refine Rj_iload_n (q := 36) d_Bo_teethFor_35 rfl rfl rfl ?_
  refine Rj_ia (q := 37) (v := N) aD_81 rfl (by omega) hN d_Bo_teethFor_36 rfl ?_
  refine Rj_icmp_ge (q := 40) (t := 180) d_Bo_teethFor_37 rfl (by decide) ⟨by omega, by omega⟩ ⟨by omega, by omega⟩ (fun c37 => ?_) (fun c37 => ?_)
  · exact absurd c37 (by omega)
  · refine Rj_aload_n (q := 41) d_Bo_teethFor_40 rfl rfl rfl ?_
    refine Rj_gr (q := 44) (zd := 80) gD_Bo_11_79 rfl rfl d_Bo_teethFor_41 rfl ?_
    refine Rj_iload (q := 46) d_Bo_teethFor_44 rfl rfl ?_
    refine Rj_iload (q := 48) d_Bo_teethFor_46 rfl rfl ?_
    refine Rj_iadd (q := 49) d_Bo_teethFor_48 rfl ?_
    refine Rj_ia (q := 50) (v := 21) aD_80 rfl (by omega) h80w d_Bo_teethFor_49 rfl ?_
    refine Rj_istore (q := 52) (ls' := [vA 79, vI r, vI d, vI ah, vI (r * 401), vI i, vI 21]) d_Bo_teethFor_50 rfl (by decide) rfl ?_
    refine Rj_iload (q := 54) d_Bo_teethFor_52 rfl rfl ?_
    refine Rj_bipush (q := 56) d_Bo_teethFor_54 rfl (by decide +kernel) ?_
    refine Rj_icmp_lt (q := 59) (t := 72) d_Bo_teethFor_56 rfl (by decide) (by decide) (by decide) (fun _ => ?_) (fun c => absurd c (by decide))
    refine Rj_iload (q := 74) d_Bo_teethFor_72 rfl rfl ?_
    refine Rj_bipush (q := 76) d_Bo_teethFor_74 rfl (by decide +kernel) ?_
    refine Rj_icmp_gt (q := 79) (t := 94) d_Bo_teethFor_76 rfl (by decide) (by decide) (by decide) (fun _ => ?_) (fun c => absurd c (by decide))
    refine Rj_iload (q := 96) d_Bo_teethFor_94 rfl rfl ?_
    refine Rj_bipush (q := 98) d_Bo_teethFor_96 rfl (by decide +kernel) ?_
    refine Rj_icmp_ne (q := 101) (t := 114) d_Bo_teethFor_98 rfl (by decide) (by decide) (by decide) (fun _ => ?_) (fun c => absurd c (by decide))
    refine Rj_iload (q := 116) d_Bo_teethFor_114 rfl rfl ?_
    refine Rj_bipush (q := 118) d_Bo_teethFor_116 rfl (by decide +kernel) ?_
    refine Rj_icmp_ge (q := 121) (t := 145) d_Bo_teethFor_118 rfl (by decide) (by decide) (by decide) (fun _ => ?_) (fun c => absurd c (by decide))
    refine Rj_iload (q := 147) d_Bo_teethFor_145 rfl rfl ?_
    refine Rj_bipush (q := 149) d_Bo_teethFor_147 rfl (by decide +kernel) ?_
    refine Rj_icmp_eq (q := 152) (t := 161) d_Bo_teethFor_149 rfl (by decide) (by decide) (by decide) (fun c => absurd c (by decide)) (fun _ => ?_)
    refine Rj_aload_n (q := 153) d_Bo_teethFor_152 rfl rfl rfl ?_
    refine Rj_vo (q := 156) (z := y_Bo_take) (as := []) (rest := []) (la := [vA 79]) oD_79_Bo_take ml_Bo_41 mw_Bo_take mv_Bo_take rfl d_Bo_teethFor_153 rfl rfl rfl rfl rfl ?_
    refine s_take hS (by simp) (fun m153 fm153 sm153 => ?_)
    have fr153 : Fr Wsk μ m153 := fm153
    refine Rj_lconst (q := 157) (z := 0) d_Bo_teethFor_156 rfl rfl ?_
    refine Rj_lc_eq (q := 158) (q2 := 161) (t := 169) d_Bo_teethFor_157 rfl d_Bo_teethFor_158 rfl (by decide) (by first | assumption | decide) (by decide) (fun c157 => ?_) (fun c157 => ?_)
    · refine Rj_aload_n (q := 170) d_Bo_teethFor_169 rfl rfl rfl ?_
      refine Rj_vo (q := 173) (z := y_Bo_take) (as := []) (rest := []) (la := [vA 79]) oD_79_Bo_take ml_Bo_41 mw_Bo_take mv_Bo_take rfl d_Bo_teethFor_170 rfl rfl rfl rfl rfl ?_
      refine s_take sm153 (by simp) (fun m170 fm170 sm170 => ?_)
      have fr170 : Fr Wsk μ m170 := Fr.trans fr153 fm170
      refine Rj_pop2L (q := 174) d_Bo_teethFor_173 rfl ?_
      refine Rj_iinc (q := 177) (ls' := [vA 79, vI r, vI d, vI ah, vI (r * 401), vI (i + 1), vI 21]) d_Bo_teethFor_174 rfl rfl (by decide) rfl ?_
      refine Rj_goto (t := 29) d_Bo_teethFor_177 (by decide) ?_
      refine Rj_pre (ls' := [vA 79, vI r, vI d, vI ah, vI (r * 401), vI (i + 1)]) (t := [vI 21]) rfl ?_
      exact h0 c157 _ fr170 sm170
    · refine Rj_aload_n (q := 162) d_Bo_teethFor_161 rfl rfl rfl ?_
      refine Rj_vo (q := 165) (z := y_Bo_take) (as := []) (rest := []) (la := [vA 79]) oD_79_Bo_take ml_Bo_41 mw_Bo_take mv_Bo_take rfl d_Bo_teethFor_162 rfl rfl rfl rfl rfl ?_
      refine s_take sm153 (by simp) (fun m162 fm162 sm162 => ?_)
      have fr162 : Fr Wsk μ m162 := Fr.trans fr153 fm162
      refine Rj_cs (q := 168) (z := y_Bo_held) (as := [vL v]) (rest := []) (la := [vL v, vU]) ml_Bo_49 mw_Bo_held ms_Bo_held d_Bo_teethFor_165 rfl rfl rfl rfl rfl ?_
      refine s_held hv ?_
      refine Rj_iret d_Bo_teethFor_168 rfl ?_
      exact h1 c157 _ fr162
set_option maxHeartbeats 4000000 in
theorem s_teeth_end {μ : Mem} {Q : PV → Mem → Prop} {r d ah N : Int} (hr : 0 ≤ r ∧ r < 6) (hN : μ 81 r = N) (hN4 : 0 ≤ N ∧ N ≤ 400) (hQ : Q (vI 0) μ) : Rj YD y_Bo_teethFor 29 [vA 79, vI r, vI d, vI ah, vI (r * 401), vI N] [] μ Q := by
  refine Rj_iload (q := 31) d_Bo_teethFor_29 rfl rfl ?_
  refine Rj_aload_n (q := 32) d_Bo_teethFor_31 rfl rfl rfl ?_
  refine Rj_gr (q := 35) (zd := 81) gD_Bo_15_79 rfl rfl d_Bo_teethFor_32 rfl ?_
  refine Rj_iload_n (q := 36) d_Bo_teethFor_35 rfl rfl rfl ?_
  refine Rj_ia (q := 37) (v := N) aD_81 rfl (by omega) hN d_Bo_teethFor_36 rfl ?_
  refine Rj_icmp_ge (q := 40) (t := 180) d_Bo_teethFor_37 rfl (by decide) ⟨by omega, by omega⟩ ⟨by omega, by omega⟩ (fun c37 => ?_) (fun c37 => ?_)
  · refine Rj_iconst (q := 181) d_Bo_teethFor_180 rfl ?_
    refine Rj_iret d_Bo_teethFor_181 rfl ?_
    exact hQ
  · exact absurd c37 (by omega)
theorem s_teeth_D : ∀ {D : List CLS} {μ : Mem} {Q : PV → Mem → Prop} {S lo up dn lk pl : Int → Int} {r d ah N i : Int}, GX μ S lo up dn lk pl → (0 ≤ d ∧ d < S 0) → (0 ≤ ah ∧ ah ≤ 100) → (0 ≤ r ∧ r < 6) → μ 81 r = N → N ≤ 400 → 0 ≤ i → i + ((flC D).length : Int) = N → LST (μ 80) (401 * r + i) (flC D) → (∀ x ∈ D, WFc x) → SST μ [] → (∀ μ', Fr Wsk μ μ' → Q (vI (tfD (wrd S pl d ah) D)) μ') → Rj YD y_Bo_teethFor 29 [vA 79, vI r, vI d, vI ah, vI (r * 401), vI (i)] [] μ Q
  | [], μ, Q, S, lo, up, dn, lk, pl, r, d, ah, N, i, h, hd, ha, hr, hN, hN4, hi, hi2, hL, hw, hS, hQ => by
    have e : i = N := by rw [← hi2]; simp [flC]
    rw [e]
    exact s_teeth_end hr hN (by omega) (hQ μ (Fr.refl _ _))
  | x :: D, μ, Q, S, lo, up, dn, lk, pl, r, d, ah, N, i, h, hd, ha, hr, hN, hN4, hi, hi2, hL, hw, hS, hQ => by
    have wx := hw x (by simp)
    have W64 := wrd_64 h.1 hd h.2.2.2.2.2 ha
    obtain ⟨v, ev1⟩ := one_of (ev_len (W := (wrd S pl d ah)) (c := x.1) (st := []) wx.1)
    have v6 : i64 v := (ev_64 W64 (c := x.1) (st := []) wx.1 (fun z hz => absurd hz (by simp))) v (by rw [ev1]; simp)
    cases ex : x.2 with
    | none =>
      have ef : flC (x :: D) = x.1 ++ ([20] ++ flC D) := by
        show x.1 ++ (match x.2 with | none => [20] | some u => u ++ [21]) ++ flC D = _
        rw [ex, List.append_assoc]
      have et : tfD (wrd S pl d ah) (x :: D) = hld v := by
        show (match x.2 with | none => hld (top1 (ev (wrd S pl d ah) x.1 [])) | some u => _) = _
        rw [ex, ev1]; rfl
      rw [ef] at hi2 hL
      rw [et] at hQ
      obtain ⟨l1, l2⟩ := LST_app.mp hL
      have ll : ((x.1 ++ ([20] ++ flC D)).length : Int) = (x.1.length : Int) + 1 + ((flC D).length : Int) := by simp; omega
      refine s_teeth_29 (c := x.1) (st := []) _ (Nat.lt_succ_self _) h hd ha hr hN hN4 hi (by omega) l1 wx.1 (by decide) (bs := []) (by decide) hS (fun z hz => absurd hz (by simp)) (fun m f1 s1 => ?_)
      rw [ev1] at s1
      refine s_teeth_20 hr ((f1 81 r (by unfold Wsk; omega)).trans hN) hN4 (by omega) v6 ?_ s1 (fun m2 f2 => hQ m2 (f1.trans f2))
      rw [f1 80 _ (by unfold Wsk; omega), show 401 * r + (i + (x.1.length : Int)) = 401 * r + i + (x.1.length : Int) by omega]
      exact l2.1
    | some u =>
      have ef : flC (x :: D) = x.1 ++ (u ++ ([21] ++ flC D)) := by
        show x.1 ++ (match x.2 with | none => [20] | some u => u ++ [21]) ++ flC D = _
        rw [ex]; simp only [List.append_assoc]
      have wu := wx.2 u ex
      obtain ⟨w, ev2⟩ := one_of (ev_len (W := (wrd S pl d ah)) (c := u) (st := []) wu)
      have w6 : i64 w := (ev_64 W64 (c := u) (st := []) wu (fun z hz => absurd hz (by simp))) w (by rw [ev2]; simp)
      have et : tfD (wrd S pl d ah) (x :: D) = if w = 0 then tfD (wrd S pl d ah) D else hld v := by
        show (match x.2 with | none => _ | some u => if top1 (ev (wrd S pl d ah) u []) = 0 then tfD (wrd S pl d ah) D else hld (top1 (ev (wrd S pl d ah) x.1 []))) = _
        rw [ex, ev1]
        show (if top1 (ev (wrd S pl d ah) u []) = 0 then _ else _) = _
        rw [ev2]; rfl
      rw [ef] at hi2 hL
      obtain ⟨l1, l2⟩ := LST_app.mp hL
      obtain ⟨l2, l3⟩ := LST_app.mp l2
      have ll : ((x.1 ++ (u ++ ([21] ++ flC D))).length : Int) = (x.1.length : Int) + (u.length : Int) + 1 + ((flC D).length : Int) := by simp; omega
      refine s_teeth_29 (c := x.1) (st := []) _ (Nat.lt_succ_self _) h hd ha hr hN hN4 hi (by omega) l1 wx.1 (by decide) (bs := []) (by decide) hS (fun z hz => absurd hz (by simp)) (fun m f1 s1 => ?_)
      rw [ev1] at s1
      have h1 := h.fr f1 (fun c i q => by unfold gxc at q; unfold Wsk; omega)
      have e80 : m 80 = μ 80 := f1.row (fun i q => by unfold Wsk at q; omega)
      have hn1 : m 81 r = N := (f1 81 r (by unfold Wsk; omega)).trans hN
      refine s_teeth_29 (c := u) (st := []) (bs := [v]) (a := 1) _ (Nat.lt_succ_self _) h1 hd ha hr hn1 hN4 (by omega) (by omega) ?_ wu (by decide) (by simp) s1 (fun z hz => absurd hz (by simp)) (fun m2 f2 s2 => ?_)
      · rw [e80, show 401 * r + (i + (x.1.length : Int)) = 401 * r + i + (x.1.length : Int) by omega]; exact l2
      rw [ev2] at s2
      have e82 : m2 80 = μ 80 := (f2.row (fun i q => by unfold Wsk at q; omega)).trans e80
      have hn2 : m2 81 r = N := (f2 81 r (by unfold Wsk; omega)).trans hn1
      refine s_teeth_21 hr hn2 hN4 (by omega) v6 w6 ?_ s2 (fun w0 m3 f3 => ?_) (fun w0 m3 f3 s3 => ?_)
      · rw [e82, show 401 * r + (i + (x.1.length : Int) + (u.length : Int)) = 401 * r + i + (x.1.length : Int) + (u.length : Int) by omega]
        exact l3.1
      · have q := hQ m3 ((f1.trans f2).trans f3)
        rw [et, if_neg w0] at q; exact q
      · have h3 := h1.fr (f2.trans f3) (fun c i q => by unfold gxc at q; unfold Wsk; omega)
        have e83 : m3 80 = μ 80 := (f3.row (fun i q => by unfold Wsk at q; omega)).trans e82
        refine s_teeth_D (D := D) h3 hd ha hr ((f3 81 r (by unfold Wsk; omega)).trans hn2) hN4 (by omega) (by omega) ?_ (fun y hy => hw y (List.mem_cons_of_mem _ hy)) s3 (fun m4 f4 => ?_)
        · rw [e83, show 401 * r + (i + (x.1.length : Int) + (u.length : Int) + 1) = 401 * r + i + (x.1.length : Int) + (u.length : Int) + 1 by omega]
          exact l3.2
        · have q := hQ m4 (((f1.trans f2).trans f3).trans f4)
          rw [et, if_pos w0] at q; exact q

set_option maxHeartbeats 4000000 in
theorem s_teethFor {μ : Mem} {Q : PV → Mem → Prop} {S lo up dn lk pl : Int → Int} {r d ah R : Int} {D : List CLS} (h : GX μ S lo up dn lk pl) (hd : 0 ≤ d ∧ d < S 0) (ha : 0 ≤ ah ∧ ah ≤ 100) (hr : 0 ≤ r ∧ r < R) (hR : μ 79 1 = R) (hR6 : R ≤ 6) (hL : LST (μ 80) (401 * r) (flC D)) (hl : μ 81 r = ((flC D).length : Int)) (hl4 : ((flC D).length : Int) ≤ 400) (hw : ∀ x ∈ D, WFc x) (hQ : ∀ μ', Fr Wsk μ μ' → Q (vI (tfD (wrd S pl d ah) D)) μ') : Rj YD y_Bo_teethFor 0 [vA 79, vI r, vI d, vI ah] [] μ Q := by
  refine Rj_iload_n (q := 1) d_Bo_teethFor_0 rfl rfl rfl ?_
  refine Rj_if_lt (q := 4) (t := 12) d_Bo_teethFor_1 rfl (by decide) ⟨by omega, by omega⟩ (fun c1 => ?_) (fun c1 => ?_)
  · exact absurd c1 (by omega)
  · refine Rj_iload_n (q := 5) d_Bo_teethFor_4 rfl rfl rfl ?_
    refine Rj_aload_n (q := 6) d_Bo_teethFor_5 rfl rfl rfl ?_
    refine Rj_gi (q := 9) (ki := 1) (v := R) gD_Bo_26_79 rfl rfl hR d_Bo_teethFor_6 rfl ?_
    refine Rj_icmp_lt (q := 12) (t := 14) d_Bo_teethFor_9 rfl (by decide) ⟨by omega, by omega⟩ ⟨by omega, by omega⟩ (fun c9 => ?_) (fun c9 => ?_)
    · refine Rj_aload_n (q := 15) d_Bo_teethFor_14 rfl rfl rfl ?_
      refine Rj_iconst (q := 16) d_Bo_teethFor_15 rfl ?_
      refine Rj_pi (q := 19) (ki := 5) pD_Bo_30_79 rfl rfl d_Bo_teethFor_16 rfl ?_
      refine Rj_iload_n (q := 20) d_Bo_teethFor_19 rfl rfl rfl ?_
      refine Rj_sipush (q := 23) d_Bo_teethFor_20 rfl (by decide +kernel) ?_
      refine Rj_imul (q := 24) d_Bo_teethFor_23 rfl ?_
      refine Rj_istore (q := 26) (ls' := [vA 79, vI r, vI d, vI ah, vI (r * 401)]) d_Bo_teethFor_24 rfl (by decide) rfl ?_
      refine Rj_iconst (q := 27) d_Bo_teethFor_26 rfl ?_
      refine Rj_istore (q := 29) (ls' := [vA 79, vI r, vI d, vI ah, vI (r * 401), vI 0]) d_Bo_teethFor_27 rfl (by decide) rfl ?_
      have fr0 : Fr Wsk μ ((mset μ 79 5 0)) := Fr.put (Fr.refl _ _) (Or.inl ⟨rfl, rfl⟩)
      exact s_teeth_D (μ := (mset μ 79 5 0)) (i := 0) (N := ((flC D).length : Int)) (h.fr fr0 (fun c i q => by unfold gxc at q; unfold Wsk; omega)) hd ha ⟨hr.1, by omega⟩ hl hl4 (by decide) (by omega) (by rw [Int.add_zero]; exact hL) hw ⟨rfl, trivial⟩ (fun m f => hQ m (fr0.trans f))
    · exact absurd c9 (by omega)
