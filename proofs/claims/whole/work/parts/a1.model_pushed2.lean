theorem oM_0_M_reckons : OI YM 0 y_M_reckons := ⟨by decide, _, _, _, cM_0, rfl⟩
theorem oM_0_M_words : OI YM 0 y_M_words := ⟨by decide, _, _, _, cM_0, rfl⟩
/-! the reference: a rule run, clause by clause -/
theorem opt_some {α : Type} {x : Option α} (h : x ≠ none) : ∃ u, x = some u := by
  cases x with
  | none => exact absurd rfl h
  | some u => exact ⟨u, rfl⟩
theorem tf_none {W : Int → Int} {x : CLS} {D : List CLS} {v : Int} (ex : x.2 = none) (ev1 : ev W x.1 [] = [v]) : tfD W (x :: D) = hld v := by
  show (match x.2 with | none => hld (top1 (ev W x.1 [])) | some u => _) = _
  rw [ex, ev1]; rfl
theorem tf_some {W : Int → Int} {x : CLS} {D : List CLS} {u : List Int} {v w : Int} (ex : x.2 = some u) (ev1 : ev W x.1 [] = [v]) (ev2 : ev W u [] = [w]) : tfD W (x :: D) = if w = 0 then tfD W D else hld v := by
  show (match x.2 with | none => _ | some u => if top1 (ev W u []) = 0 then tfD W D else hld (top1 (ev W x.1 []))) = _
  rw [ex, ev1]
  show (if top1 (ev W u []) = 0 then _ else _) = _
  rw [ev2]; rfl
theorem hld_if (v : Int) : hld v = if v < -60 then -60 else if v > 60 then 60 else v := by
  unfold hld
  split
  · omega
  · split <;> omega
theorem hld_60 (v : Int) : -60 ≤ hld v ∧ hld v ≤ 60 := by unfold hld; omega
theorem tfD_60 (W : Int → Int) : ∀ D : List CLS, -60 ≤ tfD W D ∧ tfD W D ≤ 60
  | [] => by show (-60 : Int) ≤ 0 ∧ (0 : Int) ≤ 60; decide
  | x :: D => by
    have := tfD_60 W D
    show -60 ≤ (match x.2 with | none => hld (top1 (ev W x.1 [])) | some u => if top1 (ev W u []) = 0 then tfD W D else hld (top1 (ev W x.1 []))) ∧ (match x.2 with | none => hld (top1 (ev W x.1 [])) | some u => if top1 (ev W u []) = 0 then tfD W D else hld (top1 (ev W x.1 []))) ≤ 60
    cases x.2 with
    | none => exact hld_60 _
    | some u =>
      dsimp only
      split
      · exact this
      · exact hld_60 _
abbrev Wpb (c : Nat) (i : Int) : Prop := (c = 0 ∧ i = 23) ∨ c = 9 ∨ c = 10
set_option maxHeartbeats 4000000 in
theorem s_M_pb_9 : ∀ (f : Nat) {μ : Mem} {Q : PV → Mem → Prop} {W : Int → Int} {t d ah N i s : Int} {D : List CLS}, (D.length < f) → (0 ≤ t ∧ t < 6) → (∀ j, 0 ≤ j → j ≤ 7 → μ 10 j = W j) → (∀ j, 0 ≤ j → j ≤ 7 → i64 (W j)) → (μ 5 t = N) → (N ≤ 12) → (0 ≤ i) → (i + (D.length : Int) = N) → (TB (μ 4) (48 * t + 4 * i) s D) → (0 ≤ s) → (s + ((flM D).length : Int) ≤ 400) → (LST (μ 2) (400 * t + s) ((flM D).map enc)) → (∀ x ∈ D, WFc x) → (∀ μ', Fr Wsn μ μ' → Q (vI (tfD W D)) μ') → Rj YM y_M_pushedBy 9 [vA 0, vI t, vI d, vI ah, vI i] [] μ Q := by
  intro f
  induction f with
  | zero => intro μ Q W t d ah N i s D hf ht hW hW6 hN hN4 hi hi2 hT hs hs4 hL hw hQ; exact absurd hf (by omega)
  | succ f ih =>
    intro μ Q W t d ah N i s D hf ht hW hW6 hN hN4 hi hi2 hT hs hs4 hL hw hQ
    refine Rj_iload (q := 11) d_M_pushedBy_9 rfl rfl ?_
    refine Rj_aload_n (q := 12) d_M_pushedBy_11 rfl rfl rfl ?_
    refine Rj_gr (q := 15) (zd := 5) gM_M_23_0 rfl rfl d_M_pushedBy_12 rfl ?_
    refine Rj_iload_n (q := 16) d_M_pushedBy_15 rfl rfl rfl ?_
    refine Rj_ia (q := 17) (v := N) aM_5 rfl (by omega) hN d_M_pushedBy_16 rfl ?_
    refine Rj_icmp_ge (q := 20) (t := 112) d_M_pushedBy_17 rfl (by decide) ⟨by omega, by omega⟩ ⟨by omega, by omega⟩ (fun c17 => ?_) (fun c17 => ?_)
    · have eD : D = [] := List.eq_nil_of_length_eq_zero (by omega)
      subst eD
      refine Rj_iconst (q := 113) d_M_pushedBy_112 rfl ?_
      refine Rj_iret d_M_pushedBy_113 rfl ?_
      exact hQ μ (Fr.refl _ _)
    · rcases D with _ | ⟨x, D2⟩
      · exact absurd hi2 (by simp; omega)
      have dl : (((x :: D2).length : Nat) : Int) = (D2.length : Int) + 1 := by simp
      have wx := hw x (by simp)
      obtain ⟨⟨tb1, tb2, tb3, tb4⟩, tb5⟩ := hT
      generalize eu2 : (if x.2 = none then -1 else s + (x.1.length : Int)) = u2 at tb3
      have efM : flM (x :: D2) = x.1 ++ (x.2.getD [] ++ flM D2) := by show x.1 ++ x.2.getD [] ++ flM D2 = _; rw [List.append_assoc]
      have ecx : ((cuC x).length : Int) = (x.1.length : Int) + ((x.2.getD []).length : Int) := by show ((x.1 ++ x.2.getD []).length : Int) = _; simp
      have elM : ((flM (x :: D2)).length : Int) = (x.1.length : Int) + ((x.2.getD []).length : Int) + ((flM D2).length : Int) := by rw [efM]; simp; omega
      rw [efM, List.map_append, List.map_append] at hL
      obtain ⟨l1, l2⟩ := LST_app.mp hL
      obtain ⟨l2, l3⟩ := LST_app.mp l2
      rw [List.length_map] at l2 l3
      rw [List.length_map] at l3
      have u2r : -1 ≤ u2 ∧ u2 ≤ 400 := by rw [← eu2]; split <;> omega
      obtain ⟨v, ev1⟩ := one_of (ev_len (W := W) (c := x.1) (st := []) wx.1)
      have v6 : i64 v := (ev_64 hW6 (c := x.1) (st := []) wx.1 (fun z hz => absurd hz (by simp))) v (by rw [ev1]; simp)
      refine Rj_bipush (q := 22) d_M_pushedBy_20 rfl (by decide +kernel) ?_
      refine Rj_iload_n (q := 23) d_M_pushedBy_22 rfl rfl rfl ?_
      refine Rj_imul (q := 24) d_M_pushedBy_23 rfl ?_
      refine Rj_iconst (q := 25) d_M_pushedBy_24 rfl ?_
      refine Rj_iload (q := 27) d_M_pushedBy_25 rfl rfl ?_
      refine Rj_imul (q := 28) d_M_pushedBy_27 rfl ?_
      refine Rj_iadd (q := 29) d_M_pushedBy_28 rfl ?_
      refine Rj_istore (q := 31) (ls' := [vA 0, vI t, vI d, vI ah, vI i, vI ((48 * t) + (4 * i))]) d_M_pushedBy_29 rfl (by decide) rfl ?_
      refine Rj_aload_n (q := 32) d_M_pushedBy_31 rfl rfl rfl ?_
      refine Rj_gr (q := 35) (zd := 4) gM_M_20_0 rfl rfl d_M_pushedBy_32 rfl ?_
      refine Rj_iload (q := 37) d_M_pushedBy_35 rfl rfl ?_
      refine Rj_iconst (q := 38) d_M_pushedBy_37 rfl ?_
      refine Rj_iadd (q := 39) d_M_pushedBy_38 rfl ?_
      refine Rj_ia (q := 40) (v := u2) aM_4 rfl (by omega) tb3 d_M_pushedBy_39 rfl ?_
      refine Rj_if_lt (q := 43) (t := 74) d_M_pushedBy_40 rfl (by decide) ⟨by omega, by omega⟩ (fun c40 => ?_) (fun c40 => ?_)
      · have ex : x.2 = none := by
          by_cases e : x.2 = none
          · exact e
          · rw [if_neg e] at eu2; omega
        refine Rj_aload_n (q := 75) d_M_pushedBy_74 rfl rfl rfl ?_
        refine Rj_iload_n (q := 76) d_M_pushedBy_75 rfl rfl rfl ?_
        refine Rj_aload_n (q := 77) d_M_pushedBy_76 rfl rfl rfl ?_
        refine Rj_gr (q := 80) (zd := 4) gM_M_20_0 rfl rfl d_M_pushedBy_77 rfl ?_
        refine Rj_iload (q := 82) d_M_pushedBy_80 rfl rfl ?_
        refine Rj_ia (q := 83) (v := s) aM_4 rfl (by omega) tb1 d_M_pushedBy_82 rfl ?_
        refine Rj_aload_n (q := 84) d_M_pushedBy_83 rfl rfl rfl ?_
        refine Rj_gr (q := 87) (zd := 4) gM_M_20_0 rfl rfl d_M_pushedBy_84 rfl ?_
        refine Rj_iload (q := 89) d_M_pushedBy_87 rfl rfl ?_
        refine Rj_iconst (q := 90) d_M_pushedBy_89 rfl ?_
        refine Rj_iadd (q := 91) d_M_pushedBy_90 rfl ?_
        refine Rj_ia (q := 92) (v := s + (x.1.length : Int)) aM_4 rfl (by omega) tb2 d_M_pushedBy_91 rfl ?_
        refine Rj_vo (q := 95) (z := y_M_reckons) (as := [vI t, vI s, vI (s + (x.1.length : Int))]) (rest := []) (la := [vA 0, vI t, vI s, vI (s + (x.1.length : Int))]) oM_0_M_reckons ml_M_461 mw_M_reckons mv_M_reckons rfl d_M_pushedBy_92 rfl rfl rfl rfl rfl ?_
        refine s_M_reckons (W := W) (c := x.1) ht hW hW6 hs rfl (by omega) l1 wx.1 (fun m92 f92 => ?_)
        have fr92 : Fr Wsn μ m92 := f92
        rw [ev1]
        show Rj YM y_M_pushedBy 95 [vA 0, vI t, vI d, vI ah, vI i, vI ((48 * t) + (4 * i))] [vL v] m92 Q
        refine Rj_ldc2 (q := 98) k_M_372 d_M_pushedBy_95 rfl ?_
        refine Rj_ldc2 (q := 101) k_M_374 d_M_pushedBy_98 rfl ?_
        refine Rj_cs (q := 104) (z := y_M_bounded) (as := [vL v, vL (-60), vL 60]) (rest := []) (la := [vL v, vU, vL (-60), vU, vL 60, vU]) ml_M_464 mw_M_bounded ms_M_bounded d_M_pushedBy_101 rfl rfl rfl rfl rfl ?_
        refine s_M_bounded (by first | assumption | decide) (by decide) (by decide) ?_
        refine Rj_l2i (q := 105) d_M_pushedBy_104 rfl ?_
        refine Rj_iret d_M_pushedBy_105 rfl ?_
        have q := hQ m92 fr92
        rw [tf_none ex ev1] at q
        exact fin_I q (hld_if v)
      · have exn : x.2 ≠ none := fun e => by rw [if_pos e] at eu2; omega
        obtain ⟨u, ex⟩ := opt_some exn
        rw [if_neg exn] at eu2
        have wu := wx.2 u ex
        rw [ex] at l2 l3 ecx elM
        have l2 : LST (μ 2) (400 * t + s + (x.1.length : Int)) (u.map enc) := l2
        have ecx : ((cuC x).length : Int) = (x.1.length : Int) + (u.length : Int) := ecx
        have elM : ((flM (x :: D2)).length : Int) = (x.1.length : Int) + (u.length : Int) + ((flM D2).length : Int) := elM
        have cx : s + ((cuC x).length : Int) = u2 + (u.length : Int) := by omega
        have e2u : 400 * t + u2 = 400 * t + s + (x.1.length : Int) := by omega
        obtain ⟨w, ev2⟩ := one_of (ev_len (W := W) (c := u) (st := []) wu)
        have w6 : i64 w := (ev_64 hW6 (c := u) (st := []) wu (fun z hz => absurd hz (by simp))) w (by rw [ev2]; simp)
        refine Rj_aload_n (q := 44) d_M_pushedBy_43 rfl rfl rfl ?_
        refine Rj_iload_n (q := 45) d_M_pushedBy_44 rfl rfl rfl ?_
        refine Rj_aload_n (q := 46) d_M_pushedBy_45 rfl rfl rfl ?_
        refine Rj_gr (q := 49) (zd := 4) gM_M_20_0 rfl rfl d_M_pushedBy_46 rfl ?_
        refine Rj_iload (q := 51) d_M_pushedBy_49 rfl rfl ?_
        refine Rj_iconst (q := 52) d_M_pushedBy_51 rfl ?_
        refine Rj_iadd (q := 53) d_M_pushedBy_52 rfl ?_
        refine Rj_ia (q := 54) (v := u2) aM_4 rfl (by omega) tb3 d_M_pushedBy_53 rfl ?_
        refine Rj_aload_n (q := 55) d_M_pushedBy_54 rfl rfl rfl ?_
        refine Rj_gr (q := 58) (zd := 4) gM_M_20_0 rfl rfl d_M_pushedBy_55 rfl ?_
        refine Rj_iload (q := 60) d_M_pushedBy_58 rfl rfl ?_
        refine Rj_iconst (q := 61) d_M_pushedBy_60 rfl ?_
        refine Rj_iadd (q := 62) d_M_pushedBy_61 rfl ?_
        refine Rj_ia (q := 63) (v := s + ((cuC x).length : Int)) aM_4 rfl (by omega) tb4 d_M_pushedBy_62 rfl ?_
        refine Rj_vo (q := 66) (z := y_M_reckons) (as := [vI t, vI u2, vI (s + ((cuC x).length : Int))]) (rest := []) (la := [vA 0, vI t, vI u2, vI (s + ((cuC x).length : Int))]) oM_0_M_reckons ml_M_461 mw_M_reckons mv_M_reckons rfl d_M_pushedBy_63 rfl rfl rfl rfl rfl ?_
        refine s_M_reckons (W := W) (c := u) ht hW hW6 (by omega) cx (by rw [cx]; omega) (by rw [e2u]; exact l2) wu (fun m63 f63 => ?_)
        rw [ev2]
        show Rj YM y_M_pushedBy 66 [vA 0, vI t, vI d, vI ah, vI i, vI ((48 * t) + (4 * i))] [vL w] m63 Q
        refine Rj_lconst (q := 67) (z := 0) d_M_pushedBy_66 rfl rfl ?_
        refine Rj_lc_ne (q := 68) (q2 := 71) (t := 74) d_M_pushedBy_67 rfl d_M_pushedBy_68 rfl (by decide) (by first | assumption | decide) (by decide) (fun c67 => ?_) (fun c67 => ?_)
        · refine Rj_aload_n (q := 75) d_M_pushedBy_74 rfl rfl rfl ?_
          refine Rj_iload_n (q := 76) d_M_pushedBy_75 rfl rfl rfl ?_
          refine Rj_aload_n (q := 77) d_M_pushedBy_76 rfl rfl rfl ?_
          refine Rj_gr (q := 80) (zd := 4) gM_M_20_0 rfl rfl d_M_pushedBy_77 rfl ?_
          refine Rj_iload (q := 82) d_M_pushedBy_80 rfl rfl ?_
          refine Rj_ia (q := 83) (v := s) aM_4 rfl (by omega) ((f63 4 _ (by unfold Wsn; omega)).trans tb1) d_M_pushedBy_82 rfl ?_
          refine Rj_aload_n (q := 84) d_M_pushedBy_83 rfl rfl rfl ?_
          refine Rj_gr (q := 87) (zd := 4) gM_M_20_0 rfl rfl d_M_pushedBy_84 rfl ?_
          refine Rj_iload (q := 89) d_M_pushedBy_87 rfl rfl ?_
          refine Rj_iconst (q := 90) d_M_pushedBy_89 rfl ?_
          refine Rj_iadd (q := 91) d_M_pushedBy_90 rfl ?_
          refine Rj_ia (q := 92) (v := s + (x.1.length : Int)) aM_4 rfl (by omega) ((f63 4 _ (by unfold Wsn; omega)).trans tb2) d_M_pushedBy_91 rfl ?_
          refine Rj_vo (q := 95) (z := y_M_reckons) (as := [vI t, vI s, vI (s + (x.1.length : Int))]) (rest := []) (la := [vA 0, vI t, vI s, vI (s + (x.1.length : Int))]) oM_0_M_reckons ml_M_461 mw_M_reckons mv_M_reckons rfl d_M_pushedBy_92 rfl rfl rfl rfl rfl ?_
          refine s_M_reckons (W := W) (c := x.1) ht (fun j j0 j1 => (f63 10 j (by unfold Wsn; omega)).trans (hW j j0 j1)) hW6 hs rfl (by omega) (by rw [f63.row (fun i q => by unfold Wsn at q; omega)]; exact l1) wx.1 (fun m92 f92 => ?_)
          have fr92 : Fr Wsn μ m92 := f63.trans f92
          rw [ev1]
          show Rj YM y_M_pushedBy 95 [vA 0, vI t, vI d, vI ah, vI i, vI ((48 * t) + (4 * i))] [vL v] m92 Q
          refine Rj_ldc2 (q := 98) k_M_372 d_M_pushedBy_95 rfl ?_
          refine Rj_ldc2 (q := 101) k_M_374 d_M_pushedBy_98 rfl ?_
          refine Rj_cs (q := 104) (z := y_M_bounded) (as := [vL v, vL (-60), vL 60]) (rest := []) (la := [vL v, vU, vL (-60), vU, vL 60, vU]) ml_M_464 mw_M_bounded ms_M_bounded d_M_pushedBy_101 rfl rfl rfl rfl rfl ?_
          refine s_M_bounded (by first | assumption | decide) (by decide) (by decide) ?_
          refine Rj_l2i (q := 105) d_M_pushedBy_104 rfl ?_
          refine Rj_iret d_M_pushedBy_105 rfl ?_
          have q := hQ m92 fr92
          rw [tf_some ex ev1 ev2, if_neg c67] at q
          exact fin_I q (hld_if v)
        · refine Rj_goto (t := 106) d_M_pushedBy_71 (by decide) ?_
          refine Rj_iinc (q := 109) (ls' := [vA 0, vI t, vI d, vI ah, vI (i + 1), vI ((48 * t) + (4 * i))]) d_M_pushedBy_106 rfl rfl (by decide) rfl ?_
          refine Rj_goto (t := 9) d_M_pushedBy_109 (by decide) ?_
          refine Rj_pre (ls' := [vA 0, vI t, vI d, vI ah, vI (i + 1)]) (t := [vI ((48 * t) + (4 * i))]) rfl ?_
          refine ih (μ := m63) (W := W) (D := D2) (i := i + 1) (s := s + ((cuC x).length : Int)) (by simp at hf; omega) ht (fun j j0 j1 => (f63 10 j (by unfold Wsn; omega)).trans (hW j j0 j1)) hW6 ((f63 5 t (by unfold Wsn; omega)).trans hN) hN4 (by omega) (by omega) ?_ (by omega) (by omega) ?_ (fun y hy => hw y (List.mem_cons_of_mem _ hy)) (fun m2 f2 => ?_)
          · rw [f63.row (fun i q => by unfold Wsn at q; omega), show 48 * t + 4 * (i + 1) = 48 * t + 4 * i + 4 by omega]; exact tb5
          · rw [f63.row (fun i q => by unfold Wsn at q; omega), show 400 * t + (s + ((cuC x).length : Int)) = 400 * t + s + (x.1.length : Int) + (u.length : Int) by omega]; exact l3
          · have q := hQ m2 (f63.trans f2)
            rw [tf_some ex ev1 ev2, if_pos c67] at q
            exact q
set_option maxHeartbeats 4000000 in
theorem s_M_pushedBy {μ : Mem} {Q : PV → Mem → Prop} (h : MX μ) {t d ah : Int} {D : List CLS} (ht : 0 ≤ t ∧ t < 6) (hd : 0 ≤ d ∧ d < μ 11 0) (ha : 0 ≤ ah ∧ ah ≤ 100) (hT : TB (μ 4) (48 * t) 0 D) (hN : μ 5 t = (D.length : Int)) (hN4 : (D.length : Int) ≤ 12) (hL : LST (μ 2) (400 * t) ((flM D).map enc)) (hl4 : ((flM D).length : Int) ≤ 400) (hw : ∀ x ∈ D, WFc x) (hQ : ∀ μ', Fr Wpb μ μ' → Q (vI (tfD (wrd (μ 11) (μ 12) d ah) D)) μ') : Rj YM y_M_pushedBy 0 [vA 0, vI t, vI d, vI ah] [] μ Q := by
  refine Rj_aload_n (q := 1) d_M_pushedBy_0 rfl rfl rfl ?_
  refine Rj_iload_n (q := 2) d_M_pushedBy_1 rfl rfl rfl ?_
  refine Rj_iload_n (q := 3) d_M_pushedBy_2 rfl rfl rfl ?_
  refine Rj_vov (q := 6) (z := y_M_words) (as := [vI d, vI ah]) (rest := []) (la := [vA 0, vI d, vI ah]) oM_0_M_words ml_M_458 mw_M_words mv_M_words rfl d_M_pushedBy_3 rfl rfl rfl rfl rfl ?_
  refine s_M_words h hd ha (fun m3 f3 w3 => ?_)
  refine Rj_iconst (q := 7) d_M_pushedBy_6 rfl ?_
  refine Rj_istore (q := 9) (ls' := [vA 0, vI t, vI d, vI ah, vI 0]) d_M_pushedBy_7 rfl (by decide) rfl ?_
  refine s_M_pb_9 (μ := m3) (W := (wrd (μ 11) (μ 12) d ah)) (D := D) (i := 0) (s := 0) (N := (D.length : Int)) _ (Nat.lt_succ_self _) ht w3 (wrd_64 h.1 hd h.2.2.2.1 ha) ((f3 5 t (show ¬ (5 : Nat) = 10 by decide)).trans hN) hN4 (by decide) (by omega) ?_ (by decide) (by omega) ?_ hw (fun m2 f2 => hQ m2 ((Fr.wide f3 (fun c i q => Or.inr (Or.inr q))).trans (Fr.wide f2 (fun c i q => by unfold Wsn at q; omega))))
  · rw [f3.row (fun i => by decide), show 48 * t + 4 * 0 = 48 * t by omega]; exact hT
  · rw [f3.row (fun i => by decide), show 400 * t + 0 = 400 * t by omega]; exact hL
