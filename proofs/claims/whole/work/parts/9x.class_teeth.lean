theorem oD_79_Bo_take : OI YD 79 y_Bo_take := ⟨by decide, _, _, _, cD_79, rfl⟩
theorem oD_79_Bo_put : OI YD 79 y_Bo_put := ⟨by decide, _, _, _, cD_79, rfl⟩
theorem oD_79_Bo_wordOf : OI YD 79 y_Bo_wordOf := ⟨by decide, _, _, _, cD_79, rfl⟩
/-! the class: by how many teeth a rule has a door pushed -/
section EVK
variable {W : Int → Int} {op a : Int} {st : List Int}
theorem evo_num (q : hst op (st.length : Int) = some a) (h : 32 ≤ op) : evo W op st = (op - 32) :: st ∧ (st.length : Int) < 60 ∧ op ≤ 100031 := by
  rcases (evo_c (W := W) q).2 with ⟨r1, r2, r3, r4⟩ | ⟨r1, r2, r3, r4⟩ | ⟨r1, x, t, r3, r4⟩ | ⟨r1, r2, y, x, t, r3, r4⟩
  · exact ⟨r4, r3, r2⟩
  all_goals omega
theorem evo_wd (q : hst op (st.length : Int) = some a) (h : op ≤ 7) : evo W op st = W op :: st ∧ (st.length : Int) < 60 ∧ 0 ≤ op := by
  rcases (evo_c (W := W) q).2 with ⟨r1, r2, r3, r4⟩ | ⟨r1, r2, r3, r4⟩ | ⟨r1, x, t, r3, r4⟩ | ⟨r1, r2, y, x, t, r3, r4⟩
  · omega
  · exact ⟨r4, r3, r1⟩
  all_goals omega
theorem evo_nt (q : hst op (st.length : Int) = some a) (h : op = 19) : ∃ x t, st = x :: t ∧ evo W op st = nL (1 - x) :: t := by
  rcases (evo_c (W := W) q).2 with ⟨r1, r2, r3, r4⟩ | ⟨r1, r2, r3, r4⟩ | ⟨r1, x, t, r3, r4⟩ | ⟨r1, r2, y, x, t, r3, r4⟩
  · omega
  · omega
  · exact ⟨x, t, r3, r4⟩
  · omega
theorem evo_bn (q : hst op (st.length : Int) = some a) (h1 : ¬ 32 ≤ op) (h2 : ¬ op ≤ 7) (h3 : op ≠ 19) : (8 ≤ op ∧ op ≤ 18) ∧ ∃ y x t, st = y :: x :: t ∧ evo W op st = jop op x y :: t := by
  rcases (evo_c (W := W) q).2 with ⟨r1, r2, r3, r4⟩ | ⟨r1, r2, r3, r4⟩ | ⟨r1, x, t, r3, r4⟩ | ⟨r1, r2, y, x, t, r3, r4⟩
  · omega
  · omega
  · omega
  · exact ⟨⟨r1, r2⟩, y, x, t, r3, r4⟩
theorem hst_rg (q : hst op (st.length : Int) = some a) : (0 ≤ op ∧ op ≤ 100031) ∧ a ≤ 60 ∨ (0 ≤ op ∧ op ≤ 100031) ∧ a ≤ (st.length : Int) := by
  rcases hst_some q with ⟨h1, h2, h3⟩ | ⟨h1, h2, h3⟩ | ⟨h1, h2, h3⟩ <;> omega
end EVK
theorem SST.fr {μ ν : Mem} {st : List Int} (h : SST μ st) (e1 : ν 79 5 = μ 79 5) (e2 : ν 82 = μ 82) : SST ν st := by unfold SST; rw [e1, e2]; exact h
set_option maxHeartbeats 4000000 in
theorem s_teeth_29 : ∀ (f : Nat) {μ : Mem} {Q : PV → Mem → Prop} {S lo up dn lk pl : Int → Int} {r d ah N i : Int} {c st bs : List Int} {a : Int}, (c.length < f) → (GX μ S lo up dn lk pl) → (0 ≤ d ∧ d < S 0) → (0 ≤ ah ∧ ah ≤ 100) → (0 ≤ r ∧ r < 6) → (μ 81 r = N) → (N ≤ 400) → (0 ≤ i) → (i + (c.length : Int) ≤ N) → (LST (μ 80) (401 * r + i) c) → (htf c (st.length : Int) = some a) → ((st.length : Int) ≤ 60) → ((bs.length : Int) ≤ 10) → (SST μ (st ++ bs)) → (S64 st) → (∀ μ', Fr Wsk μ μ' → SST μ' (ev (wrd S pl d ah) c st ++ bs) → Rj YD y_Bo_teethFor 29 [vA 79, vI r, vI d, vI ah, vI (r * 401), vI (i + (c.length : Int))] [] μ' Q) → Rj YD y_Bo_teethFor 29 [vA 79, vI r, vI d, vI ah, vI (r * 401), vI i] [] μ Q := by
  intro f
  induction f with
  | zero => intro μ Q S lo up dn lk pl r d ah N i c st bs a hf h hd ha hr hN hN4 hi hi2 hL hh hs6 hbs hS h64 hQ; exact absurd hf (by omega)
  | succ f ih =>
    intro μ Q S lo up dn lk pl r d ah N i c st bs a hf h hd ha hr hN hN4 hi hi2 hL hh hs6 hbs hS h64 hQ
    obtain ⟨z0, z1, z2, z3, z4, z5, z6, z7⟩ := h.z
    rcases c with _ | ⟨op, c2⟩
    · have q := hQ μ (Fr.refl _ _) hS
      rw [show i + ((([] : List Int).length : Nat) : Int) = i by simp] at q
      exact q
    have cl : (((op :: c2).length : Nat) : Int) = (c2.length : Int) + 1 := by simp
    obtain ⟨b, h1, h2⟩ := htf_cons hh
    have hg := hst_rg h1
    have el := (evo_c (W := (wrd S pl d ah)) h1).1
    rw [← el] at h2
    have h80 : μ 80 (r * 401 + i) = op := by rw [show r * 401 + i = 401 * r + i by omega]; exact hL.1
    refine Rj_iload (q := 31) d_Bo_teethFor_29 rfl rfl ?_
    refine Rj_aload_n (q := 32) d_Bo_teethFor_31 rfl rfl rfl ?_
    refine Rj_gr (q := 35) (zd := 81) gD_Bo_15_79 rfl rfl d_Bo_teethFor_32 rfl ?_
    refine Rj_iload_n (q := 36) d_Bo_teethFor_35 rfl rfl rfl ?_
    refine Rj_ia (q := 37) (v := N) aD_81 rfl (by omega) hN d_Bo_teethFor_36 rfl ?_
    refine Rj_icmp_ge (q := 40) (t := 180) d_Bo_teethFor_37 rfl (by decide) ⟨by omega, by omega⟩ ⟨by omega, by omega⟩ (fun c37 => ?_) (fun c37 => ?_)
    · exact absurd c37 (by omega)
    · refine Rj_aload_n (q := 41) d_Bo_teethFor_40 rfl rfl rfl ?_
      refine Rj_gr (q := 44) (zd := 80) gD_Bo_11_79 rfl rfl d_Bo_teethFor_41 rfl ?_
      refine Rj_iload (q := 46) d_Bo_teethFor_44 rfl rfl ?_
      refine Rj_iload (q := 48) d_Bo_teethFor_46 rfl rfl ?_
      refine Rj_iadd (q := 49) d_Bo_teethFor_48 rfl ?_
      refine Rj_ia (q := 50) (v := op) aD_80 rfl (by omega) h80 d_Bo_teethFor_49 rfl ?_
      refine Rj_istore (q := 52) (ls' := [vA 79, vI r, vI d, vI ah, vI (r * 401), vI i, vI op]) d_Bo_teethFor_50 rfl (by decide) rfl ?_
      refine Rj_iload (q := 54) d_Bo_teethFor_52 rfl rfl ?_
      refine Rj_bipush (q := 56) d_Bo_teethFor_54 rfl (by decide +kernel) ?_
      refine Rj_icmp_lt (q := 59) (t := 72) d_Bo_teethFor_56 rfl (by decide) ⟨by omega, by omega⟩ (by decide) (fun c56 => ?_) (fun c56 => ?_)
      · refine Rj_iload (q := 74) d_Bo_teethFor_72 rfl rfl ?_
        refine Rj_bipush (q := 76) d_Bo_teethFor_74 rfl (by decide +kernel) ?_
        refine Rj_icmp_gt (q := 79) (t := 94) d_Bo_teethFor_76 rfl (by decide) ⟨by omega, by omega⟩ (by decide) (fun c76 => ?_) (fun c76 => ?_)
        · refine Rj_iload (q := 96) d_Bo_teethFor_94 rfl rfl ?_
          refine Rj_bipush (q := 98) d_Bo_teethFor_96 rfl (by decide +kernel) ?_
          refine Rj_icmp_ne (q := 101) (t := 114) d_Bo_teethFor_98 rfl (by decide) ⟨by omega, by omega⟩ (by decide) (fun c98 => ?_) (fun c98 => ?_)
          · refine Rj_iload (q := 116) d_Bo_teethFor_114 rfl rfl ?_
            refine Rj_bipush (q := 118) d_Bo_teethFor_116 rfl (by decide +kernel) ?_
            refine Rj_icmp_ge (q := 121) (t := 145) d_Bo_teethFor_118 rfl (by decide) ⟨by omega, by omega⟩ (by decide) (fun c118 => ?_) (fun c118 => ?_)
            · have := (evo_bn (W := (wrd S pl d ah)) h1 (by omega) (by omega) c98).1; exact absurd c118 (by omega)
            · refine Rj_aload_n (q := 122) d_Bo_teethFor_121 rfl rfl rfl ?_
              refine Rj_vo (q := 125) (z := y_Bo_take) (as := []) (rest := []) (la := [vA 79]) oD_79_Bo_take ml_Bo_41 mw_Bo_take mv_Bo_take rfl d_Bo_teethFor_122 rfl rfl rfl rfl rfl ?_
              obtain ⟨bo, y, x, t, es, ee⟩ := evo_bn (W := (wrd S pl d ah)) h1 (by omega) (by omega) c98
              rw [es, List.cons_append, List.cons_append] at hS
              have tl : (st.length : Int) = (t.length : Int) + 2 := by rw [es]; simp; omega
              have x6 : i64 x := h64 x (by rw [es]; simp)
              have y6 : i64 y := h64 y (by rw [es]; simp)
              refine s_take hS (by simp only [List.length_append, List.length_cons]; omega) (fun m122 fm122 sm122 => ?_)
              have fr122 : Fr Wsk μ m122 := fm122
              refine Rj_lstore (q := 127) (ls' := [vA 79, vI r, vI d, vI ah, vI (r * 401), vI i, vI op, vL y, vU]) d_Bo_teethFor_125 rfl (by decide) rfl ?_
              refine Rj_aload_n (q := 128) d_Bo_teethFor_127 rfl rfl rfl ?_
              refine Rj_iload (q := 130) d_Bo_teethFor_128 rfl rfl ?_
              refine Rj_aload_n (q := 131) d_Bo_teethFor_130 rfl rfl rfl ?_
              refine Rj_vo (q := 134) (z := y_Bo_take) (as := []) (rest := [vI op, vA 79]) (la := [vA 79]) oD_79_Bo_take ml_Bo_41 mw_Bo_take mv_Bo_take rfl d_Bo_teethFor_131 rfl rfl rfl rfl rfl ?_
              refine s_take sm122 (by simp only [List.length_append, List.length_cons]; omega) (fun m131 fm131 sm131 => ?_)
              have fr131 : Fr Wsk μ m131 := Fr.trans fr122 fm131
              refine Rj_lload (q := 136) d_Bo_teethFor_134 rfl rfl ?_
              refine Rj_cs (q := 139) (z := y_Bo_joined) (as := [vI op, vL x, vL y]) (rest := [vA 79]) (la := [vI op, vL x, vU, vL y, vU]) ml_Bo_45 mw_Bo_joined ms_Bo_joined d_Bo_teethFor_136 rfl rfl rfl rfl rfl ?_
              refine s_joined bo x6 y6 ?_
              refine Rj_vov (q := 142) (z := y_Bo_put) (as := [vL (jop op x y)]) (rest := []) (la := [vA 79, vL (jop op x y), vU]) oD_79_Bo_put ml_Bo_33 mw_Bo_put mv_Bo_put rfl d_Bo_teethFor_139 rfl rfl rfl rfl rfl ?_
              refine s_put (v := jop op x y) sm131 (by simp only [List.length_append, List.length_cons]; omega) (fun m139 fm139 sm139 => ?_)
              have fr139 : Fr Wsk μ m139 := Fr.trans fr131 fm139
              refine Rj_goto (t := 174) d_Bo_teethFor_142 (by decide) ?_
              refine Rj_iinc (q := 177) (ls' := [vA 79, vI r, vI d, vI ah, vI (r * 401), vI (i + 1), vI op, vL y, vU]) d_Bo_teethFor_174 rfl rfl (by decide) rfl ?_
              refine Rj_goto (t := 29) d_Bo_teethFor_177 (by decide) ?_
              refine Rj_pre (ls' := [vA 79, vI r, vI d, vI ah, vI (r * 401), vI (i + 1)]) (t := [vI op, vL y, vU]) rfl ?_
              have gm := h.fr fr139 (fun c i q => by unfold gxc at q; unfold Wsk; omega)
              have e80 : m139 80 = μ 80 := fr139.row (fun i q => by unfold Wsk at q; omega)
              have sm : SST m139 (evo (wrd S pl d ah) op st ++ bs) := by rw [ee]; exact sm139
              refine ih (μ := m139) (c := c2) (st := evo (wrd S pl d ah) op st) (i := i + 1) (by simp at hf; omega) gm hd ha hr ((fr139 81 r (by unfold Wsk; omega)).trans hN) hN4 (by omega) (by omega) (by rw [e80, show 401 * r + (i + 1) = 401 * r + i + 1 by omega]; exact hL.2) h2 (by omega) hbs sm (evo_64 (wrd_64 h.1 hd h.2.2.2.2.2 ha) h1 h64) (fun m2 b1 b2 => ?_)
              have q := hQ m2 (fr139.trans b1) b2
              rw [show i + (((op :: c2).length : Nat) : Int) = i + 1 + (c2.length : Int) by rw [List.length_cons]; omega] at q
              exact q
          · refine Rj_aload_n (q := 102) d_Bo_teethFor_101 rfl rfl rfl ?_
            refine Rj_lconst (q := 103) (z := 1) d_Bo_teethFor_102 rfl rfl ?_
            refine Rj_aload_n (q := 104) d_Bo_teethFor_103 rfl rfl rfl ?_
            refine Rj_vo (q := 107) (z := y_Bo_take) (as := []) (rest := [vL 1, vA 79]) (la := [vA 79]) oD_79_Bo_take ml_Bo_41 mw_Bo_take mv_Bo_take rfl d_Bo_teethFor_104 rfl rfl rfl rfl rfl ?_
            obtain ⟨x, t, es, ee⟩ := evo_nt (W := (wrd S pl d ah)) h1 c98
            rw [es, List.cons_append] at hS
            have tl : (st.length : Int) = (t.length : Int) + 1 := by rw [es]; simp
            have x6 : i64 x := h64 x (by rw [es]; simp)
            refine s_take hS (by simp only [List.length_append, List.length_cons]; omega) (fun m104 fm104 sm104 => ?_)
            have fr104 : Fr Wsk μ m104 := fm104
            refine Rj_lsub (q := 108) d_Bo_teethFor_107 rfl ?_
            refine Rj_nl (z' := nL (1 - x)) (nL_eq _) ?_
            refine Rj_vov (q := 111) (z := y_Bo_put) (as := [vL (nL (1 - x))]) (rest := []) (la := [vA 79, vL (nL (1 - x)), vU]) oD_79_Bo_put ml_Bo_33 mw_Bo_put mv_Bo_put rfl d_Bo_teethFor_108 rfl rfl rfl rfl rfl ?_
            refine s_put (v := nL (1 - x)) sm104 (by simp only [List.length_append, List.length_cons]; omega) (fun m108 fm108 sm108 => ?_)
            have fr108 : Fr Wsk μ m108 := Fr.trans fr104 fm108
            refine Rj_goto (t := 174) d_Bo_teethFor_111 (by decide) ?_
            refine Rj_iinc (q := 177) (ls' := [vA 79, vI r, vI d, vI ah, vI (r * 401), vI (i + 1), vI op]) d_Bo_teethFor_174 rfl rfl (by decide) rfl ?_
            refine Rj_goto (t := 29) d_Bo_teethFor_177 (by decide) ?_
            refine Rj_pre (ls' := [vA 79, vI r, vI d, vI ah, vI (r * 401), vI (i + 1)]) (t := [vI op]) rfl ?_
            have gm := h.fr fr108 (fun c i q => by unfold gxc at q; unfold Wsk; omega)
            have e80 : m108 80 = μ 80 := fr108.row (fun i q => by unfold Wsk at q; omega)
            have sm : SST m108 (evo (wrd S pl d ah) op st ++ bs) := by rw [ee]; exact sm108
            refine ih (μ := m108) (c := c2) (st := evo (wrd S pl d ah) op st) (i := i + 1) (by simp at hf; omega) gm hd ha hr ((fr108 81 r (by unfold Wsk; omega)).trans hN) hN4 (by omega) (by omega) (by rw [e80, show 401 * r + (i + 1) = 401 * r + i + 1 by omega]; exact hL.2) h2 (by omega) hbs sm (evo_64 (wrd_64 h.1 hd h.2.2.2.2.2 ha) h1 h64) (fun m2 b1 b2 => ?_)
            have q := hQ m2 (fr108.trans b1) b2
            rw [show i + (((op :: c2).length : Nat) : Int) = i + 1 + (c2.length : Int) by rw [List.length_cons]; omega] at q
            exact q
        · have ewl := (evo_wd (W := (wrd S pl d ah)) h1 (by omega)).2.1
          refine Rj_aload_n (q := 80) d_Bo_teethFor_79 rfl rfl rfl ?_
          refine Rj_aload_n (q := 81) d_Bo_teethFor_80 rfl rfl rfl ?_
          refine Rj_iload (q := 83) d_Bo_teethFor_81 rfl rfl ?_
          refine Rj_iload_n (q := 84) d_Bo_teethFor_83 rfl rfl rfl ?_
          refine Rj_iload_n (q := 85) d_Bo_teethFor_84 rfl rfl rfl ?_
          refine Rj_vo (q := 88) (z := y_Bo_wordOf) (as := [vI op, vI d, vI ah]) (rest := [vA 79]) (la := [vA 79, vI op, vI d, vI ah]) oD_79_Bo_wordOf ml_Bo_37 mw_Bo_wordOf mv_Bo_wordOf rfl d_Bo_teethFor_85 rfl rfl rfl rfl rfl ?_
          have ew := evo_wd (W := (wrd S pl d ah)) h1 (by omega)
          refine s_wordOf h ⟨ew.2.2, by omega⟩ hd ha ?_
          refine Rj_vov (q := 91) (z := y_Bo_put) (as := [vL (wrd S pl d ah op)]) (rest := []) (la := [vA 79, vL (wrd S pl d ah op), vU]) oD_79_Bo_put ml_Bo_33 mw_Bo_put mv_Bo_put rfl d_Bo_teethFor_88 rfl rfl rfl rfl rfl ?_
          refine s_put (v := wrd S pl d ah op) hS (by simp only [List.length_append, List.length_cons]; omega) (fun m88 fm88 sm88 => ?_)
          have fr88 : Fr Wsk μ m88 := Fr.trans (Fr.refl _ _) fm88
          refine Rj_goto (t := 174) d_Bo_teethFor_91 (by decide) ?_
          refine Rj_iinc (q := 177) (ls' := [vA 79, vI r, vI d, vI ah, vI (r * 401), vI (i + 1), vI op]) d_Bo_teethFor_174 rfl rfl (by decide) rfl ?_
          refine Rj_goto (t := 29) d_Bo_teethFor_177 (by decide) ?_
          refine Rj_pre (ls' := [vA 79, vI r, vI d, vI ah, vI (r * 401), vI (i + 1)]) (t := [vI op]) rfl ?_
          have gm := h.fr fr88 (fun c i q => by unfold gxc at q; unfold Wsk; omega)
          have e80 : m88 80 = μ 80 := fr88.row (fun i q => by unfold Wsk at q; omega)
          have sm : SST m88 (evo (wrd S pl d ah) op st ++ bs) := by rw [ew.1]; exact sm88
          refine ih (μ := m88) (c := c2) (st := evo (wrd S pl d ah) op st) (i := i + 1) (by simp at hf; omega) gm hd ha hr ((fr88 81 r (by unfold Wsk; omega)).trans hN) hN4 (by omega) (by omega) (by rw [e80, show 401 * r + (i + 1) = 401 * r + i + 1 by omega]; exact hL.2) h2 (by omega) hbs sm (evo_64 (wrd_64 h.1 hd h.2.2.2.2.2 ha) h1 h64) (fun m2 b1 b2 => ?_)
          have q := hQ m2 (fr88.trans b1) b2
          rw [show i + (((op :: c2).length : Nat) : Int) = i + 1 + (c2.length : Int) by rw [List.length_cons]; omega] at q
          exact q
      · have en := evo_num (W := (wrd S pl d ah)) h1 (by omega)
        refine Rj_aload_n (q := 60) d_Bo_teethFor_59 rfl rfl rfl ?_
        refine Rj_iload (q := 62) d_Bo_teethFor_60 rfl rfl ?_
        refine Rj_bipush (q := 64) d_Bo_teethFor_62 rfl (by decide +kernel) ?_
        refine Rj_isub (q := 65) d_Bo_teethFor_64 rfl ?_
        refine Rj_i2l (q := 66) d_Bo_teethFor_65 rfl ⟨by omega, by omega⟩ ?_
        refine Rj_vov (q := 69) (z := y_Bo_put) (as := [vL (op - 32)]) (rest := []) (la := [vA 79, vL (op - 32), vU]) oD_79_Bo_put ml_Bo_33 mw_Bo_put mv_Bo_put rfl d_Bo_teethFor_66 rfl rfl rfl rfl rfl ?_
        refine s_put (v := op - 32) hS (by simp only [List.length_append, List.length_cons]; omega) (fun m66 fm66 sm66 => ?_)
        have fr66 : Fr Wsk μ m66 := Fr.trans (Fr.refl _ _) fm66
        refine Rj_goto (t := 174) d_Bo_teethFor_69 (by decide) ?_
        refine Rj_iinc (q := 177) (ls' := [vA 79, vI r, vI d, vI ah, vI (r * 401), vI (i + 1), vI op]) d_Bo_teethFor_174 rfl rfl (by decide) rfl ?_
        refine Rj_goto (t := 29) d_Bo_teethFor_177 (by decide) ?_
        refine Rj_pre (ls' := [vA 79, vI r, vI d, vI ah, vI (r * 401), vI (i + 1)]) (t := [vI op]) rfl ?_
        have gm := h.fr fr66 (fun c i q => by unfold gxc at q; unfold Wsk; omega)
        have e80 : m66 80 = μ 80 := fr66.row (fun i q => by unfold Wsk at q; omega)
        have sm : SST m66 (evo (wrd S pl d ah) op st ++ bs) := by rw [en.1]; exact sm66
        refine ih (μ := m66) (c := c2) (st := evo (wrd S pl d ah) op st) (i := i + 1) (by simp at hf; omega) gm hd ha hr ((fr66 81 r (by unfold Wsk; omega)).trans hN) hN4 (by omega) (by omega) (by rw [e80, show 401 * r + (i + 1) = 401 * r + i + 1 by omega]; exact hL.2) h2 (by omega) hbs sm (evo_64 (wrd_64 h.1 hd h.2.2.2.2.2 ha) h1 h64) (fun m2 b1 b2 => ?_)
        have q := hQ m2 (fr66.trans b1) b2
        rw [show i + (((op :: c2).length : Nat) : Int) = i + 1 + (c2.length : Int) by rw [List.length_cons]; omega] at q
        exact q
