theorem oD_84_Rr_takeValueWord : OI YD 84 y_Rr_takeValueWord := ⟨by decide, _, _, _, cD_84, rfl⟩
theorem oD_84_Rr_isRoomForValue : OI YD 84 y_Rr_isRoomForValue := ⟨by decide, _, _, _, cD_84, rfl⟩
theorem gD_Rr_36_84 : GI YD "DoorsOnCogs$RuleReader" 36 84 7 none := ⟨by decide, _, _, _, fl_Rr_36, cD_84, by decide, rfl⟩
theorem pD_Rr_36_84 : PI YD "DoorsOnCogs$RuleReader" 36 84 7 none .int := ⟨by decide, _, _, _, fl_Rr_36, fp_5_7, cD_84, by decide, rfl⟩
theorem gD_Rr_39_84 : GI YD "DoorsOnCogs$RuleReader" 39 84 8 none := ⟨by decide, _, _, _, fl_Rr_39, cD_84, by decide, rfl⟩
/-! the class reads a rule: values -/
theorem vat_dig {A : Int → Int} {n q : Int} (h : q < n ∧ isDg A q = true) (h5 : dend A n q - q ≤ 5) : vat A n q = .ok (32 + dval A q (dend A n q), dend A n q) := by
  unfold vat; rw [if_pos h, if_pos h5]
theorem vat_long {A : Int → Int} {n q : Int} (h : q < n ∧ isDg A q = true) (h5 : ¬ dend A n q - q ≤ 5) : vat A n q = .error (1 + 8 * q + 1) := by
  unfold vat; rw [if_pos h, if_neg h5]
theorem vat_word {A : Int → Int} {n q : Int} (h : ¬ (q < n ∧ isDg A q = true)) (h5 : 0 ≤ wix A n q) : vat A n q = .ok (wix A n q, lend A n q) := by
  unfold vat; rw [if_neg h, if_pos h5]
theorem vat_none {A : Int → Int} {n q : Int} (h : ¬ (q < n ∧ isDg A q = true)) (h5 : ¬ 0 ≤ wix A n q) : vat A n q = .error (1 + 8 * q + 0) := by
  unfold vat; rw [if_neg h, if_neg h5]
theorem wat_len {A : Int → Int} {n q v : Int} (h : wat A n q v = true) : q + 1 ≤ lend A n q := by
  unfold wat at h
  have := of_decide_eq_true h
  omega
theorem wix_rng (A : Int → Int) (n q : Int) : wix A n q ≤ 7 ∧ -1 ≤ wix A n q ∧ (0 ≤ wix A n q → q + 1 ≤ lend A n q) := by
  unfold wix
  by_cases h0 : wat A n q 1685024626 = true
  · rw [if_pos h0]; exact ⟨by decide, by decide, fun _ => wat_len h0⟩
  rw [if_neg h0]
  by_cases h1 : wat A n q 499917354088 = true
  · rw [if_pos h1]; exact ⟨by decide, by decide, fun _ => wat_len h1⟩
  rw [if_neg h1]
  by_cases h2 : wat A n q 1936744814 = true
  · rw [if_pos h2]; exact ⟨by decide, by decide, fun _ => wat_len h2⟩
  rw [if_neg h2]
  by_cases h3 : wat A n q 482854658917 = true
  · rw [if_pos h3]; exact ⟨by decide, by decide, fun _ => wat_len h3⟩
  rw [if_neg h3]
  by_cases h4 : wat A n q 1869636974 = true
  · rw [if_pos h4]; exact ⟨by decide, by decide, fun _ => wat_len h4⟩
  rw [if_neg h4]
  by_cases h5 : wat A n q 478627065459 = true
  · rw [if_pos h5]; exact ⟨by decide, by decide, fun _ => wat_len h5⟩
  rw [if_neg h5]
  by_cases h6 : wat A n q 457135713907 = true
  · rw [if_pos h6]; exact ⟨by decide, by decide, fun _ => wat_len h6⟩
  rw [if_neg h6]
  by_cases h7 : wat A n q 109330228145767 = true
  · rw [if_pos h7]; exact ⟨by decide, by decide, fun _ => wat_len h7⟩
  rw [if_neg h7]
  exact ⟨by decide, by decide, fun h => absurd h (by decide)⟩
section RCE
variable {μ μ' : Mem} {A : Int → Int} {n r k k' cl vl vl' nx nx' op : Int} {w : List Int} {D : List CLS} {c : CLS}
/-- a sign is put down, fields change -/
theorem RC.emit (h : RC μ A n r k w cl vl nx D c) {m : Mem} (fm : Fr (Wem r) μ m) (lm : LST (m 80) (401 * r) (flC D ++ cuC c ++ [op])) (lm2 : m 81 r = ((flC D ++ cuC c).length : Int) + 1) : RC m A n r k w cl vl nx D (emt op c) := by
  obtain ⟨hT, hk, hf0, h3, h4, h5, h6, h7, h8, hW, hr, hL, hl⟩ := h
  refine ⟨hT.keep (fm 2 1 (by unfold Wem; omega)) (fm.row (fun i q => by unfold Wem at q; omega)), (fm 2 2 (by unfold Wem; omega)).trans hk, (fm 2 3 (by unfold Wem; omega)).trans hf0, (fm 84 3 (by unfold Wem; omega)).trans h3, (fm 84 4 (by unfold Wem; omega)).trans h4, (fm 84 5 (by unfold Wem; omega)).trans h5, (fm 84 6 (by unfold Wem; omega)).trans h6, (fm 84 7 (by unfold Wem; omega)).trans h7, (fm 84 8 (by unfold Wem; omega)).trans h8, WST_keep hW (fun i i0 i1 => fm 85 i (by unfold Wem; omega)), ⟨(fm 79 1 (by unfold Wem; omega)).trans hr.1, hr.2⟩, ?_, ?_⟩
  · rw [cuC_emt, ← List.append_assoc]; exact lm
  · rw [nC_emt, nC_len]; exact lm2
end RCE
theorem dend_pos {A : Int → Int} {n q : Int} (h : q < n ∧ isDg A q = true) : q + 1 ≤ dend A n q := by
  have e : dend A n q = dend A n (q + 1) := rn_step h.1 h.2
  have := rn_ge (isDg A) n (q + 1)
  rw [e]; exact this
set_option maxHeartbeats 4000000 in
theorem s_readValue_7 {μ : Mem} {Q : PV → Mem → Prop} {A : Int → Int} {n r k cl vl nx : Int} {w : List Int} {D : List CLS} {c : CLS} {b : Int} (hC : RC μ A n r k w cl vl nx D c) (hI : IV n k w cl vl nx D c) (hs : sk A n k = k) (hx : nx % 2 = 0) (ho : ¬ (nx = 6 ∧ isOpn A n k)) (hbb : (b = 1 ∧ (k < n ∧ isDg A k = true)) ∨ (b = 0 ∧ ¬ (k < n ∧ isDg A k = true))) (hE : ∀ e μ', RUN A n k w cl vl nx D c (.error e) → Fr (Wru r) μ μ' → μ' 2 3 = e → (1 ≤ e ∧ e ≤ 5000) → Q vU μ') (hG : ∀ μ' k' w' cl' vl' nx' D' c', (∀ x, RUN A n k' w' cl' vl' nx' D' c' x → RUN A n k w cl vl nx D c x) → Fr (Wru r) μ μ' → RC μ' A n r k' w' cl' vl' nx' D' c' → IV n k' w' cl' vl' nx' D' c' → k < k' → Q vU μ') : Rj YD y_Rr_readValue 7 [vA 84] [vI b] μ Q := by
  obtain ⟨hT, hk, hf0, h3, h4, h5, h6, h7, h8, hW, hr, hL, hl⟩ := id hC
  obtain ⟨i1, i2, i3, i4, i5, i6, i7, i8⟩ := id hI
  have hn := hT.2.1
  have hX := hT.1.1
  have dw := dpn_bd w
  have bw := brn_bd w
  have nn := nC_nn D c
  refine Rj_istore_n (q := 8) (ls' := [vA 84, vI b]) d_Rr_readValue_7 rfl rfl (by decide) rfl ?_
  refine Rj_aload_n (q := 9) d_Rr_readValue_8 rfl rfl rfl ?_
  refine Rj_gr (q := 12) (zd := 2) gD_Rr_15_84 rfl rfl d_Rr_readValue_9 rfl ?_
  refine Rj_gi (q := 15) (ki := 2) (v := k) gD_Rr_69_2 rfl rfl hk d_Rr_readValue_12 rfl ?_
  refine Rj_istore_n (q := 16) (ls' := [vA 84, vI b, vI k]) d_Rr_readValue_15 rfl rfl (by decide) rfl ?_
  refine Rj_iload_n (q := 17) d_Rr_readValue_16 rfl rfl rfl ?_
  refine Rj_if_eq (q := 20) (t := 33) d_Rr_readValue_17 rfl (by decide) ⟨by omega, by omega⟩ (fun c17 => ?_) (fun c17 => ?_)
  · have hdg : ¬ (k < n ∧ isDg A k = true) := hbb.elim (fun q => absurd q.1 (by omega)) (fun q => q.2)
    refine Rj_aload_n (q := 34) d_Rr_readValue_33 rfl rfl rfl ?_
    refine Rj_vo (q := 37) (z := y_Rr_takeValueWord) (as := []) (rest := []) (la := [vA 84]) oD_84_Rr_takeValueWord ml_Rr_101 mw_Rr_takeValueWord mv_Rr_takeValueWord rfl d_Rr_readValue_34 rfl rfl rfl rfl rfl ?_
    have wr := wix_rng A n k
    have lb := lend_bd A (n := n) (k := k) (by omega)
    refine s_takeValueWord (A := A) (n := n) (k := k) hT hk hf0 (by omega) hs (fun qw => ?_) (fun qw => ?_)
    · have zz := True.intro
      refine Rj_istore_n (q := 38) (ls' := [vA 84, vI b, vI k, vI (wix A n k)]) d_Rr_readValue_37 rfl rfl (by decide) rfl ?_
      refine Rj_aload_n (q := 39) d_Rr_readValue_38 rfl rfl rfl ?_
      refine Rj_gr (q := 42) (zd := 2) gD_Rr_15_84 rfl rfl d_Rr_readValue_39 rfl ?_
      refine Rj_vo (q := 45) (z := y_Sp_isSound) (as := []) (rest := []) (la := [vA 2]) oD_2_Sp_isSound ml_Rr_45 mw_Sp_isSound mv_Sp_isSound rfl d_Rr_readValue_42 rfl rfl rfl rfl rfl ?_
      refine Rj_aload_n (q := 1) d_Sp_isSound_0 rfl rfl rfl ?_
      refine Rj_gi (q := 4) (ki := 3) (v := 0) gD_Sp_28_2 rfl rfl hf0 d_Sp_isSound_1 rfl ?_
      refine Rj_if_ne (q := 7) (t := 11) d_Sp_isSound_4 rfl (by decide) (by decide) (fun c => absurd c (by decide)) (fun _ => ?_)
      refine Rj_iconst (q := 8) d_Sp_isSound_7 rfl ?_
      refine Rj_goto (t := 12) d_Sp_isSound_8 (by decide) ?_
      refine Rj_bret1 d_Sp_isSound_12 rfl ?_
      refine Rj_if_eq (q := 48) (t := 87) d_Rr_readValue_45 rfl (by decide) (by decide) (fun c => absurd c (by decide)) (fun _ => ?_)
      refine Rj_aload_n (q := 49) d_Rr_readValue_48 rfl rfl rfl ?_
      refine Rj_iload_n (q := 50) d_Rr_readValue_49 rfl rfl rfl ?_
      refine Rj_vo (q := 53) (z := y_Rr_isRoomForValue) (as := [vI k]) (rest := []) (la := [vA 84, vI k]) oD_84_Rr_isRoomForValue ml_Rr_104 mw_Rr_isRoomForValue mv_Rr_isRoomForValue rfl d_Rr_readValue_50 rfl rfl rfl rfl rfl ?_
      refine Rj_aload_n (q := 1) d_Rr_isRoomForValue_0 rfl rfl rfl ?_
      refine Rj_gi (q := 4) (ki := 7) (v := vl) gD_Rr_36_84 rfl rfl h7 d_Rr_isRoomForValue_1 rfl ?_
      refine Rj_bipush (q := 6) d_Rr_isRoomForValue_4 rfl (by decide +kernel) ?_
      refine Rj_icmp_lt (q := 9) (t := 20) d_Rr_isRoomForValue_6 rfl (by decide) ⟨by omega, by omega⟩ (by decide) (fun c50_6 => ?_) (fun c50_6 => ?_)
      · refine Rj_aload_n (q := 21) d_Rr_isRoomForValue_20 rfl rfl rfl ?_
        refine Rj_dup (q := 22) d_Rr_isRoomForValue_21 rfl (by intro h; cases h) ?_
        refine Rj_gi (q := 25) (ki := 7) (v := vl) gD_Rr_36_84 rfl rfl h7 d_Rr_isRoomForValue_22 rfl ?_
        refine Rj_iconst (q := 26) d_Rr_isRoomForValue_25 rfl ?_
        refine Rj_iadd (q := 27) d_Rr_isRoomForValue_26 rfl ?_
        refine Rj_pi (q := 30) (ki := 7) pD_Rr_36_84 rfl rfl d_Rr_isRoomForValue_27 rfl ?_
        refine Rj_iconst (q := 31) d_Rr_isRoomForValue_30 rfl ?_
        refine Rj_bret1 d_Rr_isRoomForValue_31 rfl ?_
        refine Rj_if_eq (q := 56) (t := 87) d_Rr_readValue_53 rfl (by decide) (by decide) (fun c => absurd c (by decide)) (fun _ => ?_)
        refine Rj_aload_n (q := 57) d_Rr_readValue_56 rfl rfl rfl ?_
        refine Rj_gr (q := 60) (zd := 79) gD_Rr_19_84 rfl rfl d_Rr_readValue_57 rfl ?_
        refine Rj_iload_n (q := 61) d_Rr_readValue_60 rfl rfl rfl ?_
        refine Rj_vov (q := 64) (z := y_Bo_emit) (as := [vI (wix A n k)]) (rest := []) (la := [vA 79, vI (wix A n k)]) oD_79_Bo_emit ml_Rr_108 mw_Bo_emit mv_Bo_emit rfl d_Rr_readValue_61 rfl rfl rfl rfl rfl ?_
        have cv : RC ((mset (mset μ 2 2 (lend A n k)) 84 7 (vl + 1))) A n r (lend A n k) w cl (vl + 1) nx D c := hC.upd (Fr.put (Fr.put (Fr.refl _ _) (by omega)) (by omega)) rfl h3 h4 h5 h6 rfl h8
        refine s_emit (op := wix A n k) cv.2.2.2.2.2.2.2.2.2.2.1 cv.2.2.2.2.2.2.2.2.2.2.2.1 (cv.2.2.2.2.2.2.2.2.2.2.2.2.trans (nC_len D c)) (by rw [← nC_len]; omega) (fun m fm lm lm2 => ?_)
        have cm := cv.emit fm lm lm2
        have frm : Fr (Wru r) μ m := Fr.trans (Fr.put (Fr.put (Fr.refl _ _) (by unfold Wru; omega)) (by unfold Wru; omega)) (Fr.wide fm (fun c i q => by unfold Wem at q; unfold Wru; omega))
        refine Rj_aload_n (q := 65) d_Rr_readValue_64 rfl rfl rfl ?_
        refine Rj_aload_n (q := 66) d_Rr_readValue_65 rfl rfl rfl ?_
        refine Rj_gi (q := 69) (ki := 8) (v := nx) gD_Rr_39_84 rfl rfl cm.2.2.2.2.2.2.2.2.1 d_Rr_readValue_66 rfl ?_
        refine Rj_bipush (q := 71) d_Rr_readValue_69 rfl (by decide +kernel) ?_
        refine Rj_icmp_ne (q := 74) (t := 78) d_Rr_readValue_71 rfl (by decide) ⟨by omega, by omega⟩ (by decide) (fun c71 => ?_) (fun c71 => ?_)
        · refine Rj_aload_n (q := 79) d_Rr_readValue_78 rfl rfl rfl ?_
          refine Rj_gi (q := 82) (ki := 8) (v := nx) gD_Rr_39_84 rfl rfl cm.2.2.2.2.2.2.2.2.1 d_Rr_readValue_79 rfl ?_
          refine Rj_iconst (q := 83) d_Rr_readValue_82 rfl ?_
          refine Rj_iadd (q := 84) d_Rr_readValue_83 rfl ?_
          refine Rj_pi (q := 87) (ki := 8) pD_Rr_39_84 rfl rfl d_Rr_readValue_84 rfl ?_
          refine Rj_vret d_Rr_readValue_87 rfl ?_
          have ek : k + 1 ≤ lend A n k := by exact wr.2.2 qw
          exact hG _ (lend A n k) w cl (vl + 1) (nx + 1) D (emt (wix A n k) c) (fun x g => RUN_val hs hx ho (by exact vat_word hdg qw) (by omega) (by rw [if_neg (by omega)]) g) (Fr.put frm (by unfold Wru; omega)) (cm.upd (Fr.put (Fr.refl _ _) (by omega)) ((show m 2 2 = _ from cm.2.1)) (show m 84 3 = _ from cm.2.2.2.1) (show m 84 4 = _ from cm.2.2.2.2.1) (show m 84 5 = _ from cm.2.2.2.2.2.1) (show m 84 6 = _ from cm.2.2.2.2.2.2.1) (show m 84 7 = _ from cm.2.2.2.2.2.2.2.1) rfl) ((hI.emit ek (by omega) (by omega)).at (by omega) (by omega)) (by omega)
        · refine Rj_iconst (q := 75) d_Rr_readValue_74 rfl ?_
          refine Rj_goto (t := 84) d_Rr_readValue_75 (by decide) ?_
          refine Rj_pi (q := 87) (ki := 8) pD_Rr_39_84 rfl rfl d_Rr_readValue_84 rfl ?_
          refine Rj_vret d_Rr_readValue_87 rfl ?_
          have ek : k + 1 ≤ lend A n k := by exact wr.2.2 qw
          exact hG _ (lend A n k) w cl (vl + 1) (3) D (emt (wix A n k) c) (fun x g => RUN_val hs hx ho (by exact vat_word hdg qw) (by omega) (by rw [if_pos (by omega)]) g) (Fr.put frm (by unfold Wru; omega)) (cm.upd (Fr.put (Fr.refl _ _) (by omega)) ((show m 2 2 = _ from cm.2.1)) (show m 84 3 = _ from cm.2.2.2.1) (show m 84 4 = _ from cm.2.2.2.2.1) (show m 84 5 = _ from cm.2.2.2.2.2.1) (show m 84 6 = _ from cm.2.2.2.2.2.2.1) (show m 84 7 = _ from cm.2.2.2.2.2.2.2.1) rfl) ((hI.emit ek (by omega) (by omega)).at (by omega) (by omega)) (by omega)
      · refine Rj_aload_n (q := 10) d_Rr_isRoomForValue_9 rfl rfl rfl ?_
        refine Rj_gr (q := 13) (zd := 2) gD_Rr_15_84 rfl rfl d_Rr_isRoomForValue_10 rfl ?_
        refine Rj_iload_n (q := 14) d_Rr_isRoomForValue_13 rfl rfl rfl ?_
        refine Rj_iconst (q := 15) d_Rr_isRoomForValue_14 rfl ?_
        refine Rj_vov (q := 18) (z := y_Sp_fail) (as := [vI k, vI 3]) (rest := []) (la := [vA 2, vI k, vI 3]) oD_2_Sp_fail ml_Rr_72 mw_Sp_fail mv_Sp_fail rfl d_Rr_isRoomForValue_15 rfl rfl rfl rfl rfl ?_
        refine Rj_aload_n (q := 1) d_Sp_fail_0 rfl rfl rfl ?_
        refine Rj_gi (q := 4) (ki := 3) (v := 0) gD_Sp_28_2 rfl rfl hf0 d_Sp_fail_1 rfl ?_
        refine Rj_if_ne (q := 7) (t := 19) d_Sp_fail_4 rfl (by decide) (by decide) (fun c => absurd c (by decide)) (fun _ => ?_)
        refine Rj_aload_n (q := 8) d_Sp_fail_7 rfl rfl rfl ?_
        refine Rj_iconst (q := 9) d_Sp_fail_8 rfl ?_
        refine Rj_bipush (q := 11) d_Sp_fail_9 rfl (by decide +kernel) ?_
        refine Rj_iload_n (q := 12) d_Sp_fail_11 rfl rfl rfl ?_
        refine Rj_imul (q := 13) d_Sp_fail_12 rfl ?_
        refine Rj_iadd (q := 14) d_Sp_fail_13 rfl ?_
        refine Rj_iload_n (q := 15) d_Sp_fail_14 rfl rfl rfl ?_
        refine Rj_iadd (q := 16) d_Sp_fail_15 rfl ?_
        refine Rj_pi (q := 19) (ki := 3) pD_Sp_28_2 rfl rfl d_Sp_fail_16 rfl ?_
        refine Rj_vret d_Sp_fail_19 rfl ?_
        refine Rj_iconst (q := 19) d_Rr_isRoomForValue_18 rfl ?_
        refine Rj_bret0 d_Rr_isRoomForValue_19 rfl ?_
        refine Rj_if_eq (q := 56) (t := 87) d_Rr_readValue_53 rfl (by decide) (by decide) (fun _ => ?_) (fun c => absurd c (by decide))
        refine Rj_vret d_Rr_readValue_87 rfl ?_
        exact hE ((1 + (8 * k)) + 3) _ (RUN_vmany hs hx ho (by exact vat_word hdg qw) (by omega)) (Fr.put (Fr.put (Fr.refl _ _) (by unfold Wru; omega)) (by unfold Wru; omega)) rfl (by omega)
    · have zz := True.intro
      refine Rj_istore_n (q := 38) (ls' := [vA 84, vI b, vI k, vI (-1)]) d_Rr_readValue_37 rfl rfl (by decide) rfl ?_
      refine Rj_aload_n (q := 39) d_Rr_readValue_38 rfl rfl rfl ?_
      refine Rj_gr (q := 42) (zd := 2) gD_Rr_15_84 rfl rfl d_Rr_readValue_39 rfl ?_
      refine Rj_vo (q := 45) (z := y_Sp_isSound) (as := []) (rest := []) (la := [vA 2]) oD_2_Sp_isSound ml_Rr_45 mw_Sp_isSound mv_Sp_isSound rfl d_Rr_readValue_42 rfl rfl rfl rfl rfl ?_
      refine Rj_aload_n (q := 1) d_Sp_isSound_0 rfl rfl rfl ?_
      refine Rj_gi (q := 4) (ki := 3) (v := 1 + 8 * k + 0) gD_Sp_28_2 rfl rfl rfl d_Sp_isSound_1 rfl ?_
      refine Rj_if_ne (q := 7) (t := 11) d_Sp_isSound_4 rfl (by decide) ⟨by omega, by omega⟩ (fun c42_4 => ?_) (fun c42_4 => ?_)
      · refine Rj_iconst (q := 12) d_Sp_isSound_11 rfl ?_
        refine Rj_bret0 d_Sp_isSound_12 rfl ?_
        refine Rj_if_eq (q := 48) (t := 87) d_Rr_readValue_45 rfl (by decide) (by decide) (fun _ => ?_) (fun c => absurd c (by decide))
        refine Rj_vret d_Rr_readValue_87 rfl ?_
        exact hE (1 + 8 * k + 0) _ (RUN_vbad hs hx ho (by exact vat_none hdg qw)) (Fr.put (Fr.refl _ _) (by unfold Wru; omega)) rfl (by omega)
      · exact absurd c42_4 (by omega)
  · have hdg : k < n ∧ isDg A k = true := hbb.elim (fun q => q.2) (fun q => absurd q.1 (by omega))
    refine Rj_bipush (q := 22) d_Rr_readValue_20 rfl (by decide +kernel) ?_
    refine Rj_aload_n (q := 23) d_Rr_readValue_22 rfl rfl rfl ?_
    refine Rj_gr (q := 26) (zd := 2) gD_Rr_15_84 rfl rfl d_Rr_readValue_23 rfl ?_
    refine Rj_vo (q := 29) (z := y_Sp_takeNumber) (as := []) (rest := [vI 32]) (la := [vA 2]) oD_2_Sp_takeNumber ml_Rr_98 mw_Sp_takeNumber mv_Sp_takeNumber rfl d_Rr_readValue_26 rfl rfl rfl rfl rfl ?_
    refine s_takeNumber2 (μ := μ) (A := A) (n := n) (k := k) (hT.keep rfl rfl) hk (by omega) hf0 hs (fun q26 l26 => ?_) (fun q26 => ?_) (fun q26 l26 => ?_)
    · have db := dval_bd (A := A) (n := n) (k := k)
      have de := dend_bd A (n := n) (k := k) (by omega)
      refine Rj_iadd (q := 30) d_Rr_readValue_29 rfl ?_
      refine Rj_goto (t := 37) d_Rr_readValue_30 (by decide) ?_
      refine Rj_istore_n (q := 38) (ls' := [vA 84, vI b, vI k, vI (32 + (dval A k (dend A n k)))]) d_Rr_readValue_37 rfl rfl (by decide) rfl ?_
      refine Rj_aload_n (q := 39) d_Rr_readValue_38 rfl rfl rfl ?_
      refine Rj_gr (q := 42) (zd := 2) gD_Rr_15_84 rfl rfl d_Rr_readValue_39 rfl ?_
      refine Rj_vo (q := 45) (z := y_Sp_isSound) (as := []) (rest := []) (la := [vA 2]) oD_2_Sp_isSound ml_Rr_45 mw_Sp_isSound mv_Sp_isSound rfl d_Rr_readValue_42 rfl rfl rfl rfl rfl ?_
      refine Rj_aload_n (q := 1) d_Sp_isSound_0 rfl rfl rfl ?_
      refine Rj_gi (q := 4) (ki := 3) (v := 0) gD_Sp_28_2 rfl rfl hf0 d_Sp_isSound_1 rfl ?_
      refine Rj_if_ne (q := 7) (t := 11) d_Sp_isSound_4 rfl (by decide) (by decide) (fun c => absurd c (by decide)) (fun _ => ?_)
      refine Rj_iconst (q := 8) d_Sp_isSound_7 rfl ?_
      refine Rj_goto (t := 12) d_Sp_isSound_8 (by decide) ?_
      refine Rj_bret1 d_Sp_isSound_12 rfl ?_
      refine Rj_if_eq (q := 48) (t := 87) d_Rr_readValue_45 rfl (by decide) (by decide) (fun c => absurd c (by decide)) (fun _ => ?_)
      refine Rj_aload_n (q := 49) d_Rr_readValue_48 rfl rfl rfl ?_
      refine Rj_iload_n (q := 50) d_Rr_readValue_49 rfl rfl rfl ?_
      refine Rj_vo (q := 53) (z := y_Rr_isRoomForValue) (as := [vI k]) (rest := []) (la := [vA 84, vI k]) oD_84_Rr_isRoomForValue ml_Rr_104 mw_Rr_isRoomForValue mv_Rr_isRoomForValue rfl d_Rr_readValue_50 rfl rfl rfl rfl rfl ?_
      refine Rj_aload_n (q := 1) d_Rr_isRoomForValue_0 rfl rfl rfl ?_
      refine Rj_gi (q := 4) (ki := 7) (v := vl) gD_Rr_36_84 rfl rfl h7 d_Rr_isRoomForValue_1 rfl ?_
      refine Rj_bipush (q := 6) d_Rr_isRoomForValue_4 rfl (by decide +kernel) ?_
      refine Rj_icmp_lt (q := 9) (t := 20) d_Rr_isRoomForValue_6 rfl (by decide) ⟨by omega, by omega⟩ (by decide) (fun c50_6 => ?_) (fun c50_6 => ?_)
      · refine Rj_aload_n (q := 21) d_Rr_isRoomForValue_20 rfl rfl rfl ?_
        refine Rj_dup (q := 22) d_Rr_isRoomForValue_21 rfl (by intro h; cases h) ?_
        refine Rj_gi (q := 25) (ki := 7) (v := vl) gD_Rr_36_84 rfl rfl h7 d_Rr_isRoomForValue_22 rfl ?_
        refine Rj_iconst (q := 26) d_Rr_isRoomForValue_25 rfl ?_
        refine Rj_iadd (q := 27) d_Rr_isRoomForValue_26 rfl ?_
        refine Rj_pi (q := 30) (ki := 7) pD_Rr_36_84 rfl rfl d_Rr_isRoomForValue_27 rfl ?_
        refine Rj_iconst (q := 31) d_Rr_isRoomForValue_30 rfl ?_
        refine Rj_bret1 d_Rr_isRoomForValue_31 rfl ?_
        refine Rj_if_eq (q := 56) (t := 87) d_Rr_readValue_53 rfl (by decide) (by decide) (fun c => absurd c (by decide)) (fun _ => ?_)
        refine Rj_aload_n (q := 57) d_Rr_readValue_56 rfl rfl rfl ?_
        refine Rj_gr (q := 60) (zd := 79) gD_Rr_19_84 rfl rfl d_Rr_readValue_57 rfl ?_
        refine Rj_iload_n (q := 61) d_Rr_readValue_60 rfl rfl rfl ?_
        refine Rj_vov (q := 64) (z := y_Bo_emit) (as := [vI (32 + (dval A k (dend A n k)))]) (rest := []) (la := [vA 79, vI (32 + (dval A k (dend A n k)))]) oD_79_Bo_emit ml_Rr_108 mw_Bo_emit mv_Bo_emit rfl d_Rr_readValue_61 rfl rfl rfl rfl rfl ?_
        have cv : RC ((mset (mset μ 2 2 (dend A n k)) 84 7 (vl + 1))) A n r (dend A n k) w cl (vl + 1) nx D c := hC.upd (Fr.put (Fr.put (Fr.refl _ _) (by omega)) (by omega)) rfl h3 h4 h5 h6 rfl h8
        refine s_emit (op := 32 + (dval A k (dend A n k))) cv.2.2.2.2.2.2.2.2.2.2.1 cv.2.2.2.2.2.2.2.2.2.2.2.1 (cv.2.2.2.2.2.2.2.2.2.2.2.2.trans (nC_len D c)) (by rw [← nC_len]; omega) (fun m fm lm lm2 => ?_)
        have cm := cv.emit fm lm lm2
        have frm : Fr (Wru r) μ m := Fr.trans (Fr.put (Fr.put (Fr.refl _ _) (by unfold Wru; omega)) (by unfold Wru; omega)) (Fr.wide fm (fun c i q => by unfold Wem at q; unfold Wru; omega))
        refine Rj_aload_n (q := 65) d_Rr_readValue_64 rfl rfl rfl ?_
        refine Rj_aload_n (q := 66) d_Rr_readValue_65 rfl rfl rfl ?_
        refine Rj_gi (q := 69) (ki := 8) (v := nx) gD_Rr_39_84 rfl rfl cm.2.2.2.2.2.2.2.2.1 d_Rr_readValue_66 rfl ?_
        refine Rj_bipush (q := 71) d_Rr_readValue_69 rfl (by decide +kernel) ?_
        refine Rj_icmp_ne (q := 74) (t := 78) d_Rr_readValue_71 rfl (by decide) ⟨by omega, by omega⟩ (by decide) (fun c71 => ?_) (fun c71 => ?_)
        · refine Rj_aload_n (q := 79) d_Rr_readValue_78 rfl rfl rfl ?_
          refine Rj_gi (q := 82) (ki := 8) (v := nx) gD_Rr_39_84 rfl rfl cm.2.2.2.2.2.2.2.2.1 d_Rr_readValue_79 rfl ?_
          refine Rj_iconst (q := 83) d_Rr_readValue_82 rfl ?_
          refine Rj_iadd (q := 84) d_Rr_readValue_83 rfl ?_
          refine Rj_pi (q := 87) (ki := 8) pD_Rr_39_84 rfl rfl d_Rr_readValue_84 rfl ?_
          refine Rj_vret d_Rr_readValue_87 rfl ?_
          have ek : k + 1 ≤ dend A n k := by exact dend_pos hdg
          exact hG _ (dend A n k) w cl (vl + 1) (nx + 1) D (emt (32 + (dval A k (dend A n k))) c) (fun x g => RUN_val hs hx ho (by exact vat_dig hdg l26) (by omega) (by rw [if_neg (by omega)]) g) (Fr.put frm (by unfold Wru; omega)) (cm.upd (Fr.put (Fr.refl _ _) (by omega)) ((show m 2 2 = _ from cm.2.1)) (show m 84 3 = _ from cm.2.2.2.1) (show m 84 4 = _ from cm.2.2.2.2.1) (show m 84 5 = _ from cm.2.2.2.2.2.1) (show m 84 6 = _ from cm.2.2.2.2.2.2.1) (show m 84 7 = _ from cm.2.2.2.2.2.2.2.1) rfl) ((hI.emit ek (by omega) (by omega)).at (by omega) (by omega)) (by omega)
        · refine Rj_iconst (q := 75) d_Rr_readValue_74 rfl ?_
          refine Rj_goto (t := 84) d_Rr_readValue_75 (by decide) ?_
          refine Rj_pi (q := 87) (ki := 8) pD_Rr_39_84 rfl rfl d_Rr_readValue_84 rfl ?_
          refine Rj_vret d_Rr_readValue_87 rfl ?_
          have ek : k + 1 ≤ dend A n k := by exact dend_pos hdg
          exact hG _ (dend A n k) w cl (vl + 1) (3) D (emt (32 + (dval A k (dend A n k))) c) (fun x g => RUN_val hs hx ho (by exact vat_dig hdg l26) (by omega) (by rw [if_pos (by omega)]) g) (Fr.put frm (by unfold Wru; omega)) (cm.upd (Fr.put (Fr.refl _ _) (by omega)) ((show m 2 2 = _ from cm.2.1)) (show m 84 3 = _ from cm.2.2.2.1) (show m 84 4 = _ from cm.2.2.2.2.1) (show m 84 5 = _ from cm.2.2.2.2.2.1) (show m 84 6 = _ from cm.2.2.2.2.2.2.1) (show m 84 7 = _ from cm.2.2.2.2.2.2.2.1) rfl) ((hI.emit ek (by omega) (by omega)).at (by omega) (by omega)) (by omega)
      · refine Rj_aload_n (q := 10) d_Rr_isRoomForValue_9 rfl rfl rfl ?_
        refine Rj_gr (q := 13) (zd := 2) gD_Rr_15_84 rfl rfl d_Rr_isRoomForValue_10 rfl ?_
        refine Rj_iload_n (q := 14) d_Rr_isRoomForValue_13 rfl rfl rfl ?_
        refine Rj_iconst (q := 15) d_Rr_isRoomForValue_14 rfl ?_
        refine Rj_vov (q := 18) (z := y_Sp_fail) (as := [vI k, vI 3]) (rest := []) (la := [vA 2, vI k, vI 3]) oD_2_Sp_fail ml_Rr_72 mw_Sp_fail mv_Sp_fail rfl d_Rr_isRoomForValue_15 rfl rfl rfl rfl rfl ?_
        refine Rj_aload_n (q := 1) d_Sp_fail_0 rfl rfl rfl ?_
        refine Rj_gi (q := 4) (ki := 3) (v := 0) gD_Sp_28_2 rfl rfl hf0 d_Sp_fail_1 rfl ?_
        refine Rj_if_ne (q := 7) (t := 19) d_Sp_fail_4 rfl (by decide) (by decide) (fun c => absurd c (by decide)) (fun _ => ?_)
        refine Rj_aload_n (q := 8) d_Sp_fail_7 rfl rfl rfl ?_
        refine Rj_iconst (q := 9) d_Sp_fail_8 rfl ?_
        refine Rj_bipush (q := 11) d_Sp_fail_9 rfl (by decide +kernel) ?_
        refine Rj_iload_n (q := 12) d_Sp_fail_11 rfl rfl rfl ?_
        refine Rj_imul (q := 13) d_Sp_fail_12 rfl ?_
        refine Rj_iadd (q := 14) d_Sp_fail_13 rfl ?_
        refine Rj_iload_n (q := 15) d_Sp_fail_14 rfl rfl rfl ?_
        refine Rj_iadd (q := 16) d_Sp_fail_15 rfl ?_
        refine Rj_pi (q := 19) (ki := 3) pD_Sp_28_2 rfl rfl d_Sp_fail_16 rfl ?_
        refine Rj_vret d_Sp_fail_19 rfl ?_
        refine Rj_iconst (q := 19) d_Rr_isRoomForValue_18 rfl ?_
        refine Rj_bret0 d_Rr_isRoomForValue_19 rfl ?_
        refine Rj_if_eq (q := 56) (t := 87) d_Rr_readValue_53 rfl (by decide) (by decide) (fun _ => ?_) (fun c => absurd c (by decide))
        refine Rj_vret d_Rr_readValue_87 rfl ?_
        exact hE ((1 + (8 * k)) + 3) _ (RUN_vmany hs hx ho (by exact vat_dig hdg l26) (by omega)) (Fr.put (Fr.put (Fr.refl _ _) (by unfold Wru; omega)) (by unfold Wru; omega)) rfl (by omega)
    · exact absurd hdg q26
    · have db := dval_bd (A := A) (n := n) (k := k)
      have de := dend_bd A (n := n) (k := k) (by omega)
      refine Rj_iadd (q := 30) d_Rr_readValue_29 rfl ?_
      refine Rj_goto (t := 37) d_Rr_readValue_30 (by decide) ?_
      refine Rj_istore_n (q := 38) (ls' := [vA 84, vI b, vI k, vI (32 + (-1))]) d_Rr_readValue_37 rfl rfl (by decide) rfl ?_
      refine Rj_aload_n (q := 39) d_Rr_readValue_38 rfl rfl rfl ?_
      refine Rj_gr (q := 42) (zd := 2) gD_Rr_15_84 rfl rfl d_Rr_readValue_39 rfl ?_
      refine Rj_vo (q := 45) (z := y_Sp_isSound) (as := []) (rest := []) (la := [vA 2]) oD_2_Sp_isSound ml_Rr_45 mw_Sp_isSound mv_Sp_isSound rfl d_Rr_readValue_42 rfl rfl rfl rfl rfl ?_
      refine Rj_aload_n (q := 1) d_Sp_isSound_0 rfl rfl rfl ?_
      refine Rj_gi (q := 4) (ki := 3) (v := 1 + 8 * k + 1) gD_Sp_28_2 rfl rfl rfl d_Sp_isSound_1 rfl ?_
      refine Rj_if_ne (q := 7) (t := 11) d_Sp_isSound_4 rfl (by decide) ⟨by omega, by omega⟩ (fun c42_4 => ?_) (fun c42_4 => ?_)
      · refine Rj_iconst (q := 12) d_Sp_isSound_11 rfl ?_
        refine Rj_bret0 d_Sp_isSound_12 rfl ?_
        refine Rj_if_eq (q := 48) (t := 87) d_Rr_readValue_45 rfl (by decide) (by decide) (fun _ => ?_) (fun c => absurd c (by decide))
        refine Rj_vret d_Rr_readValue_87 rfl ?_
        exact hE (1 + 8 * k + 1) _ (RUN_vbad hs hx ho (by exact vat_long hdg l26)) (Fr.put (Fr.put (Fr.refl _ _) (by unfold Wru; omega)) (by unfold Wru; omega)) rfl (by omega)
      · exact absurd c42_4 (by omega)
set_option maxHeartbeats 4000000 in
theorem s_readValue {μ : Mem} {Q : PV → Mem → Prop} {A : Int → Int} {n r k cl vl nx : Int} {w : List Int} {D : List CLS} {c : CLS} (hC : RC μ A n r k w cl vl nx D c) (hI : IV n k w cl vl nx D c) (hx : nx % 2 = 0) (ho : ¬ (nx = 6 ∧ isOpn A n (sk A n k))) (hE : ∀ e μ', RUN A n k w cl vl nx D c (.error e) → Fr (Wru r) μ μ' → μ' 2 3 = e → (1 ≤ e ∧ e ≤ 5000) → Q vU μ') (hG : ∀ μ' k' w' cl' vl' nx' D' c', (∀ x, RUN A n k' w' cl' vl' nx' D' c' x → RUN A n k w cl vl nx D c x) → Fr (Wru r) μ μ' → RC μ' A n r k' w' cl' vl' nx' D' c' → IV n k' w' cl' vl' nx' D' c' → k < k' → Q vU μ') : Rj YD y_Rr_readValue 0 [vA 84] [] μ Q := by
  obtain ⟨hT, hk, hf0, h3, h4, h5, h6, h7, h8, hW, hr, hL, hl⟩ := id hC
  obtain ⟨i1, i2, i3, i4, i5, i6, i7, i8⟩ := id hI
  have hn := hT.2.1
  have hX := hT.1.1
  have dw := dpn_bd w
  have bw := brn_bd w
  have nn := nC_nn D c
  refine Rj_aload_n (q := 1) d_Rr_readValue_0 rfl rfl rfl ?_
  refine Rj_gr (q := 4) (zd := 2) gD_Rr_15_84 rfl rfl d_Rr_readValue_1 rfl ?_
  refine Rj_vo (q := 7) (z := y_Sp_isAtDigit) (as := []) (rest := []) (la := [vA 2]) oD_2_Sp_isAtDigit ml_Rr_95 mw_Sp_isAtDigit mv_Sp_isAtDigit rfl d_Rr_readValue_4 rfl rfl rfl rfl rfl ?_
  refine Rj_aload_n (q := 1) d_Sp_isAtDigit_0 rfl rfl rfl ?_
  refine Rj_vo (q := 4) (z := y_Sp_nextSign) (as := []) (rest := []) (la := [vA 2]) oD_2_Sp_nextSign ml_Sp_31 mw_Sp_nextSign mv_Sp_nextSign rfl d_Sp_isAtDigit_1 rfl rfl rfl rfl rfl ?_
  refine s_next (μ := μ) (A := A) (n := n) (k := k) (hT.keep rfl rfl) hk (by omega) ?_
  have r4_1 := sk_bd A (n := n) (k := k) (by omega)
  have v4_1 := nsV_rng hT (k := sk A n k) (by omega)
  refine Rj_istore_n (q := 5) (ls' := [vA 2, vI (nsV μ n (sk A n k))]) d_Sp_isAtDigit_4 rfl rfl (by decide) rfl ?_
  refine Rj_iload_n (q := 6) d_Sp_isAtDigit_5 rfl rfl rfl ?_
  refine Rj_bipush (q := 8) d_Sp_isAtDigit_6 rfl (by decide +kernel) ?_
  refine Rj_icmp_lt (q := 11) (t := 21) d_Sp_isAtDigit_8 rfl (by decide) ⟨by omega, by omega⟩ (by decide) (fun c4_8 => ?_) (fun c4_8 => ?_)
  · have hdg : ¬ (sk A n k < n ∧ isDg A (sk A n k) = true) := fun q => by have q2 := (v4_1.2.2 48 57 (by decide) (by decide)).mpr ⟨q.1, of_decide_eq_true q.2⟩; omega
    refine Rj_iconst (q := 22) d_Sp_isAtDigit_21 rfl ?_
    refine Rj_bret0 d_Sp_isAtDigit_22 rfl ?_
    have fr0 : Fr (Wru r) μ ((mset μ 2 2 (sk A n k))) := (Fr.put (Fr.refl _ _) (by unfold Wru; omega))
    exact s_readValue_7 (k := sk A n k) (nx := nx) (w := w) (D := D) (c := c) (hC.upd (Fr.put (Fr.refl _ _) (by omega)) rfl h3 h4 h5 h6 h7 h8) (hI.to (by omega) (by omega)) (sk_idem _ _ _) hx ho (Or.inr ⟨rfl, hdg⟩) (fun e m a1 a2 a3 a4 => hE e m (RUN_sk a1) (fr0.trans a2) a3 a4) (fun m k2 w2 cl2 vl2 nx2 D2 c2 a1 a2 a3 a4 a5 => hG m k2 w2 cl2 vl2 nx2 D2 c2 (fun x g => RUN_sk (a1 x g)) (fr0.trans a2) a3 a4 (by omega))
  · refine Rj_iload_n (q := 12) d_Sp_isAtDigit_11 rfl rfl rfl ?_
    refine Rj_bipush (q := 14) d_Sp_isAtDigit_12 rfl (by decide +kernel) ?_
    refine Rj_icmp_gt (q := 17) (t := 21) d_Sp_isAtDigit_14 rfl (by decide) ⟨by omega, by omega⟩ (by decide) (fun c4_14 => ?_) (fun c4_14 => ?_)
    · have hdg : ¬ (sk A n k < n ∧ isDg A (sk A n k) = true) := fun q => by have q2 := (v4_1.2.2 48 57 (by decide) (by decide)).mpr ⟨q.1, of_decide_eq_true q.2⟩; omega
      refine Rj_iconst (q := 22) d_Sp_isAtDigit_21 rfl ?_
      refine Rj_bret0 d_Sp_isAtDigit_22 rfl ?_
      have fr0 : Fr (Wru r) μ ((mset μ 2 2 (sk A n k))) := (Fr.put (Fr.refl _ _) (by unfold Wru; omega))
      exact s_readValue_7 (k := sk A n k) (nx := nx) (w := w) (D := D) (c := c) (hC.upd (Fr.put (Fr.refl _ _) (by omega)) rfl h3 h4 h5 h6 h7 h8) (hI.to (by omega) (by omega)) (sk_idem _ _ _) hx ho (Or.inr ⟨rfl, hdg⟩) (fun e m a1 a2 a3 a4 => hE e m (RUN_sk a1) (fr0.trans a2) a3 a4) (fun m k2 w2 cl2 vl2 nx2 D2 c2 a1 a2 a3 a4 a5 => hG m k2 w2 cl2 vl2 nx2 D2 c2 (fun x g => RUN_sk (a1 x g)) (fr0.trans a2) a3 a4 (by omega))
    · have hdg : sk A n k < n ∧ isDg A (sk A n k) = true := by have q := (v4_1.2.2 48 57 (by decide) (by decide)).mp ⟨by omega, by omega⟩; exact ⟨q.1, decide_eq_true q.2⟩
      refine Rj_iconst (q := 18) d_Sp_isAtDigit_17 rfl ?_
      refine Rj_goto (t := 22) d_Sp_isAtDigit_18 (by decide) ?_
      refine Rj_bret1 d_Sp_isAtDigit_22 rfl ?_
      have fr0 : Fr (Wru r) μ ((mset μ 2 2 (sk A n k))) := (Fr.put (Fr.refl _ _) (by unfold Wru; omega))
      exact s_readValue_7 (k := sk A n k) (nx := nx) (w := w) (D := D) (c := c) (hC.upd (Fr.put (Fr.refl _ _) (by omega)) rfl h3 h4 h5 h6 h7 h8) (hI.to (by omega) (by omega)) (sk_idem _ _ _) hx ho (Or.inl ⟨rfl, hdg⟩) (fun e m a1 a2 a3 a4 => hE e m (RUN_sk a1) (fr0.trans a2) a3 a4) (fun m k2 w2 cl2 vl2 nx2 D2 c2 a1 a2 a3 a4 a5 => hG m k2 w2 cl2 vl2 nx2 D2 c2 (fun x g => RUN_sk (a1 x g)) (fr0.trans a2) a3 a4 (by omega))
