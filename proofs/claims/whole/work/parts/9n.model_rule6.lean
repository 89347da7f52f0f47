/-! the reference reads a rule: open signs are put down -/
theorem enc_19 {o : Int} (h : o = 17 ∨ o = 18 ∨ o = 19 ∨ o = 22) : enc o = 11 ↔ o = 19 := by
  rcases h with e | e | e | e <;> subst e <;> decide
theorem enc_22 {o : Int} (h : o = 17 ∨ o = 18 ∨ o = 19 ∨ o = 22) : enc o = 91 ↔ o = 22 := by
  rcases h with e | e | e | e <;> subst e <;> decide
theorem enc_rg {o : Int} (h : o = 17 ∨ o = 18 ∨ o = 19 ∨ o = 22) : 0 ≤ enc o ∧ enc o ≤ 91 := by
  rcases h with e | e | e | e <;> subst e <;> decide
theorem RUN_stl1 {A : Int → Int} {n k q cl vl : Int} {w : List Int} {D : List CLS} {c c' : CLS} {r : Except Int (List CLS)} (hq : sk A n k = q) (hm : nmo A n q 7) (hb : ¬ 0 < brn w) (es : stl 1 w c = ([], c')) (g : RUN A n k [] cl vl 7 D c' r) : RUN A n k w cl vl 7 D c r := by
  subst hq
  obtain ⟨f, g⟩ := g
  refine ⟨f, ?_⟩
  cases f with
  | zero => exact absurd g (by intro h; cases h)
  | succ f =>
    rw [rnr_B (by decide), stB_rest hm, if_neg (show ¬ 0 < brn [] by decide), show stl 1 [] c' = ([], c') from rfl] at g
    rw [rnr_B (by decide), stB_rest hm, if_neg hb, es]
    exact g
theorem WST_br {f : Int → Int} : ∀ {w : List Int}, WST f (w.map enc) → OPW w → (0 < brn w ↔ ∃ i, 0 ≤ i ∧ i < (w.length : Int) ∧ f i = 91)
  | [], _, _ => ⟨fun h => absurd h (by decide), fun ⟨i, i0, i1, _⟩ => by simp at i1; omega⟩
  | o :: t, h, hp => by
    have l : (((o :: t).length : Nat) : Int) = (t.length : Int) + 1 := by simp
    have h1 : f (t.length : Int) = enc o := by
      have : f (((t.map enc).length : Nat) : Int) = enc o := h.1
      rwa [List.length_map] at this
    have ih := WST_br h.2 hp.tl
    have b0 := brn_nn t
    have eo := enc_22 (hp o (by simp))
    have eb : brn (o :: t) = brn t + (if o = 22 then 1 else 0) := rfl
    rw [eb]
    constructor
    · intro q
      by_cases e : o = 22
      · exact ⟨(t.length : Int), by omega, by omega, by rw [h1]; exact eo.mpr e⟩
      · rw [if_neg e] at q
        obtain ⟨i, i0, i1, i2⟩ := ih.mp (by omega)
        exact ⟨i, i0, by omega, i2⟩
    · rintro ⟨i, i0, i1, i2⟩
      by_cases e : i = (t.length : Int)
      · rw [e, h1] at i2
        rw [if_pos (eo.mp i2)]; omega
      · have := ih.mpr ⟨i, i0, by omega, i2⟩
        split <;> omega
set_option maxHeartbeats 4000000 in
theorem s_M_str_17 {μ : Mem} {Q : PV → Mem → Prop} (hQ : Q (vI 2) μ) : Rj YM y_M_strength 0 [vI 12] [] μ Q := by
  refine Rj_iload_n (q := 1) d_M_strength_0 rfl rfl rfl ?_
  refine Rj_bipush (q := 3) d_M_strength_1 rfl (by decide +kernel) ?_
  refine Rj_icmp_ne (q := 6) (t := 10) d_M_strength_3 rfl (by decide) (by decide) (by decide) (fun _ => ?_) (fun c => absurd c (by decide))
  refine Rj_iload_n (q := 11) d_M_strength_10 rfl rfl rfl ?_
  refine Rj_bipush (q := 13) d_M_strength_11 rfl (by decide +kernel) ?_
  refine Rj_icmp_ne (q := 16) (t := 20) d_M_strength_13 rfl (by decide) (by decide) (by decide) (fun c => absurd c (by decide)) (fun _ => ?_)
  refine Rj_iconst (q := 17) d_M_strength_16 rfl ?_
  refine Rj_goto (t := 31) d_M_strength_17 (by decide) ?_
  refine Rj_iret d_M_strength_31 rfl ?_
  exact hQ
set_option maxHeartbeats 4000000 in
theorem s_M_str_18 {μ : Mem} {Q : PV → Mem → Prop} (hQ : Q (vI 1) μ) : Rj YM y_M_strength 0 [vI 13] [] μ Q := by
  refine Rj_iload_n (q := 1) d_M_strength_0 rfl rfl rfl ?_
  refine Rj_bipush (q := 3) d_M_strength_1 rfl (by decide +kernel) ?_
  refine Rj_icmp_ne (q := 6) (t := 10) d_M_strength_3 rfl (by decide) (by decide) (by decide) (fun c => absurd c (by decide)) (fun _ => ?_)
  refine Rj_iconst (q := 7) d_M_strength_6 rfl ?_
  refine Rj_goto (t := 31) d_M_strength_7 (by decide) ?_
  refine Rj_iret d_M_strength_31 rfl ?_
  exact hQ
set_option maxHeartbeats 4000000 in
theorem s_M_str_19 {μ : Mem} {Q : PV → Mem → Prop} (hQ : Q (vI 3) μ) : Rj YM y_M_strength 0 [vI 11] [] μ Q := by
  refine Rj_iload_n (q := 1) d_M_strength_0 rfl rfl rfl ?_
  refine Rj_bipush (q := 3) d_M_strength_1 rfl (by decide +kernel) ?_
  refine Rj_icmp_ne (q := 6) (t := 10) d_M_strength_3 rfl (by decide) (by decide) (by decide) (fun _ => ?_) (fun c => absurd c (by decide))
  refine Rj_iload_n (q := 11) d_M_strength_10 rfl rfl rfl ?_
  refine Rj_bipush (q := 13) d_M_strength_11 rfl (by decide +kernel) ?_
  refine Rj_icmp_ne (q := 16) (t := 20) d_M_strength_13 rfl (by decide) (by decide) (by decide) (fun _ => ?_) (fun c => absurd c (by decide))
  refine Rj_iload_n (q := 21) d_M_strength_20 rfl rfl rfl ?_
  refine Rj_bipush (q := 23) d_M_strength_21 rfl (by decide +kernel) ?_
  refine Rj_icmp_ne (q := 26) (t := 30) d_M_strength_23 rfl (by decide) (by decide) (by decide) (fun c => absurd c (by decide)) (fun _ => ?_)
  refine Rj_iconst (q := 27) d_M_strength_26 rfl ?_
  refine Rj_goto (t := 31) d_M_strength_27 (by decide) ?_
  refine Rj_iret d_M_strength_31 rfl ?_
  exact hQ
set_option maxHeartbeats 4000000 in
theorem s_M_str_22 {μ : Mem} {Q : PV → Mem → Prop} (hQ : Q (vI 0) μ) : Rj YM y_M_strength 0 [vI 91] [] μ Q := by
  refine Rj_iload_n (q := 1) d_M_strength_0 rfl rfl rfl ?_
  refine Rj_bipush (q := 3) d_M_strength_1 rfl (by decide +kernel) ?_
  refine Rj_icmp_ne (q := 6) (t := 10) d_M_strength_3 rfl (by decide) (by decide) (by decide) (fun _ => ?_) (fun c => absurd c (by decide))
  refine Rj_iload_n (q := 11) d_M_strength_10 rfl rfl rfl ?_
  refine Rj_bipush (q := 13) d_M_strength_11 rfl (by decide +kernel) ?_
  refine Rj_icmp_ne (q := 16) (t := 20) d_M_strength_13 rfl (by decide) (by decide) (by decide) (fun _ => ?_) (fun c => absurd c (by decide))
  refine Rj_iload_n (q := 21) d_M_strength_20 rfl rfl rfl ?_
  refine Rj_bipush (q := 23) d_M_strength_21 rfl (by decide +kernel) ?_
  refine Rj_icmp_ne (q := 26) (t := 30) d_M_strength_23 rfl (by decide) (by decide) (by decide) (fun _ => ?_) (fun c => absurd c (by decide))
  refine Rj_iconst (q := 31) d_M_strength_30 rfl ?_
  refine Rj_iret d_M_strength_31 rfl ?_
  exact hQ
theorem s_M_strength {μ : Mem} {Q : PV → Mem → Prop} {o : Int} (ho : o = 17 ∨ o = 18 ∨ o = 19 ∨ o = 22) (hQ : Q (vI (bnd o)) μ) : Rj YM y_M_strength 0 [vI (enc o)] [] μ Q := by
  rcases ho with e | e | e | e
  · subst e; rw [show enc 17 = 12 by decide]; exact s_M_str_17 (by rw [show bnd 17 = 2 by decide] at hQ; exact hQ)
  · subst e; rw [show enc 18 = 13 by decide]; exact s_M_str_18 (by rw [show bnd 18 = 1 by decide] at hQ; exact hQ)
  · subst e; rw [show enc 19 = 11 by decide]; exact s_M_str_19 (by rw [show bnd 19 = 3 by decide] at hQ; exact hQ)
  · subst e; rw [show enc 22 = 91 by decide]; exact s_M_str_22 (by rw [show bnd 22 = 0 by decide] at hQ; exact hQ)
set_option maxHeartbeats 4000000 in
theorem s_M_settles_l : ∀ (f : Nat) {μ : Mem} {Q : PV → Mem → Prop} {A : Int → Int} {n t k cl vl nx : Int} {w : List Int} {D : List CLS} {c : CLS} {b : Int}, (w.length < f) → (RM μ A n t k cl vl D c) → (IV n k w cl vl nx D c) → (OST μ w) → (OPW w) → (1 ≤ b ∧ b ≤ 3) → (∀ μ', Fr (Wte t) μ μ' → RM μ' A n t k cl vl D (stl b w c).2 → OST μ' (stl b w c).1 → Q vU μ') → Rj YM y_M_settles 0 [vA 0, vI b] [] μ Q := by
  intro f
  induction f with
  | zero => intro μ Q A n t k cl vl nx w D c b hf hC hI hO hp hb hQ; exact absurd hf (by omega)
  | succ f ih =>
    intro μ Q A n t k cl vl nx w D c b hf hC hI hO hp hb hQ
    obtain ⟨hA, hn, hX, hk, hw0, ht, hv, hc, hL, hl⟩ := id hC
    obtain ⟨i1, i2, i3, i4, i5, i6, i7, i8⟩ := id hI
    have nn := nM_le D c
    have hX1 := hX.1
    have dw := dpn_bd w
    refine Rj_aload_n (q := 1) d_M_settles_0 rfl rfl rfl ?_
    refine Rj_gi (q := 4) (ki := 21) (v := (w.length : Int)) gM_M_167_0 rfl rfl hO.1 d_M_settles_1 rfl ?_
    refine Rj_if_le (q := 7) (t := 76) d_M_settles_4 rfl (by decide) ⟨by omega, by omega⟩ (fun c4 => ?_) (fun c4 => ?_)
    · have e := nil_of (w := w) (by omega)
      subst e
      refine Rj_vret d_M_settles_76 rfl ?_
      exact hQ μ (Fr.refl _ _) hC hO
    · obtain ⟨o, t_, ew⟩ := top_of (w := w) (by omega)
      have wl : (w.length : Int) = (t_.length : Int) + 1 := by rw [ew]; simp
      have oo := hp o (by rw [ew]; simp)
      have er := enc_rg oo
      have h8 : μ 8 (t_.length : Int) = enc o := by
        have q := hO.2.2
        rw [ew] at q
        have q1 : μ 8 (((t_.map enc).length : Nat) : Int) = enc o := q.1
        rwa [List.length_map] at q1
      have h8w : μ 8 ((w.length : Int) - 1) = enc o := by rw [show (w.length : Int) - 1 = (t_.length : Int) by omega]; exact h8
      have ob : 0 ≤ bnd o ∧ bnd o ≤ 6 := by unfold bnd; (repeat' split) <;> omega
      refine Rj_aload_n (q := 8) d_M_settles_7 rfl rfl rfl ?_
      refine Rj_gr (q := 11) (zd := 8) gM_M_32_0 rfl rfl d_M_settles_8 rfl ?_
      refine Rj_aload_n (q := 12) d_M_settles_11 rfl rfl rfl ?_
      refine Rj_gi (q := 15) (ki := 21) (v := (w.length : Int)) gM_M_167_0 rfl rfl hO.1 d_M_settles_12 rfl ?_
      refine Rj_iconst (q := 16) d_M_settles_15 rfl ?_
      refine Rj_isub (q := 17) d_M_settles_16 rfl ?_
      refine Rj_ia (q := 18) (v := enc o) aM_8 rfl (by omega) h8w d_M_settles_17 rfl ?_
      refine Rj_cs (q := 21) (z := y_M_strength) (as := [vI (enc o)]) (rest := []) (la := [vI (enc o)]) ml_M_170 mw_M_strength ms_M_strength d_M_settles_18 rfl rfl rfl rfl rfl ?_
      refine s_M_strength oo ?_
      refine Rj_iload_n (q := 22) d_M_settles_21 rfl rfl rfl ?_
      refine Rj_icmp_lt (q := 25) (t := 76) d_M_settles_22 rfl (by decide) ⟨by omega, by omega⟩ ⟨by omega, by omega⟩ (fun c22 => ?_) (fun c22 => ?_)
      · rw [ew, stl_stop (by omega), ← ew] at hQ
        refine Rj_vret d_M_settles_76 rfl ?_
        exact hQ μ (Fr.refl _ _) hC hO
      · refine Rj_aload_n (q := 26) d_M_settles_25 rfl rfl rfl ?_
        refine Rj_dup (q := 27) d_M_settles_26 rfl (by intro h; cases h) ?_
        refine Rj_gi (q := 30) (ki := 21) (v := (w.length : Int)) gM_M_167_0 rfl rfl hO.1 d_M_settles_27 rfl ?_
        refine Rj_iconst (q := 31) d_M_settles_30 rfl ?_
        refine Rj_isub (q := 32) d_M_settles_31 rfl ?_
        refine Rj_pi (q := 35) (ki := 21) pM_M_167_0 rfl rfl d_M_settles_32 rfl ?_
        refine Rj_aload_n (q := 36) d_M_settles_35 rfl rfl rfl ?_
        refine Rj_aload_n (q := 37) d_M_settles_36 rfl rfl rfl ?_
        refine Rj_gr (q := 40) (zd := 8) gM_M_32_0 rfl rfl d_M_settles_37 rfl ?_
        refine Rj_aload_n (q := 41) d_M_settles_40 rfl rfl rfl ?_
        refine Rj_gi (q := 44) (ki := 21) (v := (w.length : Int) - 1) gM_M_167_0 rfl rfl rfl d_M_settles_41 rfl ?_
        refine Rj_ia (q := 45) (v := enc o) aM_8 rfl (by omega) (show μ 8 ((w.length : Int) - 1) = enc o from h8w) d_M_settles_44 rfl ?_
        refine Rj_iconst (q := 46) d_M_settles_45 rfl ?_
        refine Rj_vov (q := 49) (z := y_M_puts) (as := [vI (enc o), vI 0]) (rest := []) (la := [vA 0, vI (enc o), vI 0]) oM_0_M_puts ml_M_174 mw_M_puts mv_M_puts rfl d_M_settles_46 rfl rfl rfl rfl rfl ?_
        have cv : RM ((mset μ 0 21 ((w.length : Int) - 1))) A n t k cl vl D c := hC.upd2 (Fr.put (Fr.refl _ _) (by omega)) hk hv hc
        refine s_M_puts cv.2.2.2.2.2.1 cv.2.2.2.2.2.2.2.2.1 (cv.2.2.2.2.2.2.2.2.2.trans (nM_len D c)) (by rw [← nM_len]; omega) (fun m fm lm lm2 => ?_)
        have cm := cv.emit (op := o) fm (by rw [show enc o = enc o + 16 * 0 by omega]; exact lm) lm2
        have m21 : m 0 21 = (t_.length : Int) := (fm 0 21 (by unfold Wpu; omega)).trans (by show (w.length : Int) - 1 = _; omega)
        have m18 : m 0 18 = dpn w := (fm 0 18 (by unfold Wpu; omega)).trans hO.2.1
        have m8 : m 8 = μ 8 := fm.row (fun i q => by unfold Wpu at q; omega)
        have fr1 : Fr (Wte t) μ m := Fr.trans (Fr.put (Fr.refl _ _) (by unfold Wte; omega)) (Fr.wide fm (fun c i q => by unfold Wpu at q; unfold Wte; omega))
        refine Rj_aload_n (q := 50) d_M_settles_49 rfl rfl rfl ?_
        refine Rj_gr (q := 53) (zd := 8) gM_M_32_0 rfl rfl d_M_settles_50 rfl ?_
        refine Rj_aload_n (q := 54) d_M_settles_53 rfl rfl rfl ?_
        refine Rj_gi (q := 57) (ki := 21) (v := (t_.length : Int)) gM_M_167_0 rfl rfl m21 d_M_settles_54 rfl ?_
        refine Rj_ia (q := 58) (v := enc o) aM_8 rfl (by omega) ((congrFun m8 _).trans h8) d_M_settles_57 rfl ?_
        refine Rj_bipush (q := 60) d_M_settles_58 rfl (by decide +kernel) ?_
        refine Rj_icmp_ne (q := 63) (t := 0) d_M_settles_60 rfl (by decide) ⟨by omega, by omega⟩ (by decide) (fun c60 => ?_) (fun c60 => ?_)
        · have fr2 : Fr (Wte t) μ m := fr1
          rw [ew, stl_cons (by omega)] at hQ
          have hI2 : IV n k (o :: t_) cl vl nx D c := by rw [← ew]; exact hI
          refine ih (μ := m) (w := t_) (c := emt o c) (by rw [ew] at hf; simp at hf; omega) cm hI2.down ⟨m21, ?_, ?_⟩ (by rw [ew] at hp; exact hp.tl) hb (fun m2 a1 a2 a3 => hQ m2 (fr2.trans a1) a2 a3)
          · rw [m18, ew, dpn_cons, if_neg (fun q => q.elim (fun q => c60 ((enc_19 oo).mpr q)) (fun q => by rw [q, show bnd 22 = 0 by decide] at c22; omega))]; omega
          · rw [ew] at hO
            show WST (m 8) _
            rw [m8]; exact hO.2.2.2
        · refine Rj_aload_n (q := 64) d_M_settles_63 rfl rfl rfl ?_
          refine Rj_dup (q := 65) d_M_settles_64 rfl (by intro h; cases h) ?_
          refine Rj_gi (q := 68) (ki := 18) (v := dpn w) gM_M_164_0 rfl rfl m18 d_M_settles_65 rfl ?_
          refine Rj_iconst (q := 69) d_M_settles_68 rfl ?_
          refine Rj_isub (q := 70) d_M_settles_69 rfl ?_
          refine Rj_pi (q := 73) (ki := 18) pM_M_164_0 rfl rfl d_M_settles_70 rfl ?_
          refine Rj_goto (t := 0) d_M_settles_73 (by decide) ?_
          have fr2 : Fr (Wte t) μ (mset m 0 18 ((dpn w) - 1)) := (Fr.put fr1 (by unfold Wte; omega))
          rw [ew, stl_cons (by omega)] at hQ
          have hI2 : IV n k (o :: t_) cl vl nx D c := by rw [← ew]; exact hI
          refine ih (μ := (mset m 0 18 ((dpn w) - 1))) (w := t_) (c := emt o c) (by rw [ew] at hf; simp at hf; omega) (cm.upd2 (Fr.put (Fr.refl _ _) (by omega)) cm.2.2.2.1 cm.2.2.2.2.2.2.1 cm.2.2.2.2.2.2.2.1) hI2.down ⟨m21, ?_, ?_⟩ (by rw [ew] at hp; exact hp.tl) hb (fun m2 a1 a2 a3 => hQ m2 (fr2.trans a1) a2 a3)
          · show dpn w - 1 = dpn t_
            rw [ew, dpn_cons, if_pos (Or.inl ((enc_19 oo).mp c60))]; omega
          · rw [ew] at hO
            show WST (m 8) _
            rw [m8]; exact hO.2.2.2
theorem s_M_settles {μ : Mem} {Q : PV → Mem → Prop} {A : Int → Int} {n t k cl vl nx : Int} {w : List Int} {D : List CLS} {c : CLS} {b : Int} (hC : RM μ A n t k cl vl D c) (hI : IV n k w cl vl nx D c) (hO : OST μ w) (hp : OPW w) (hb : 1 ≤ b ∧ b ≤ 3) (hQ : ∀ μ', Fr (Wte t) μ μ' → RM μ' A n t k cl vl D (stl b w c).2 → OST μ' (stl b w c).1 → Q vU μ') : Rj YM y_M_settles 0 [vA 0, vI b] [] μ Q := s_M_settles_l _ (Nat.lt_succ_self _) hC hI hO hp hb hQ
set_option maxHeartbeats 4000000 in
theorem s_M_isInside_2 : ∀ (f : Nat) {μ : Mem} {Q : PV → Mem → Prop} {w : List Int} {i : Int}, (((w.length : Int) - i).toNat < f) → (OST μ w) → (OPW w) → ((w.length : Int) ≤ 400) → (0 ≤ i ∧ i ≤ (w.length : Int)) → (∀ j, 0 ≤ j → j < i → ¬ μ 8 j = 91) → (∀ j, 0 ≤ j → j < (w.length : Int) → i32 (μ 8 j)) → (0 < brn w → Q (vI 1) μ) → (¬ 0 < brn w → Q (vI 0) μ) → Rj YM y_M_isInside 2 [vA 0, vI i] [] μ Q := by
  intro f
  induction f with
  | zero => intro μ Q w i hf hO hp hw hi hb hr h1 h0; exact absurd hf (by omega)
  | succ f ih =>
    intro μ Q w i hf hO hp hw hi hb hr h1 h0
    refine Rj_iload_n (q := 3) d_M_isInside_2 rfl rfl rfl ?_
    refine Rj_aload_n (q := 4) d_M_isInside_3 rfl rfl rfl ?_
    refine Rj_gi (q := 7) (ki := 21) (v := (w.length : Int)) gM_M_167_0 rfl rfl hO.1 d_M_isInside_4 rfl ?_
    refine Rj_icmp_ge (q := 10) (t := 29) d_M_isInside_7 rfl (by decide) ⟨by omega, by omega⟩ ⟨by omega, by omega⟩ (fun c7 => ?_) (fun c7 => ?_)
    · refine Rj_iconst (q := 30) d_M_isInside_29 rfl ?_
      refine Rj_bret0 d_M_isInside_30 rfl ?_
      exact h0 (fun q => by obtain ⟨j, j0, j1, j2⟩ := (WST_br hO.2.2 hp).mp q; exact hb j j0 (by omega) j2)
    · refine Rj_aload_n (q := 11) d_M_isInside_10 rfl rfl rfl ?_
      refine Rj_gr (q := 14) (zd := 8) gM_M_32_0 rfl rfl d_M_isInside_11 rfl ?_
      refine Rj_iload_n (q := 15) d_M_isInside_14 rfl rfl rfl ?_
      refine Rj_ia (q := 16) (v := μ 8 i) aM_8 rfl (by omega) rfl d_M_isInside_15 rfl ?_
      refine Rj_bipush (q := 18) d_M_isInside_16 rfl (by decide +kernel) ?_
      refine Rj_icmp_ne (q := 21) (t := 23) d_M_isInside_18 rfl (by decide) (hr i (by omega) (by omega)) (by decide) (fun c18 => ?_) (fun c18 => ?_)
      · refine Rj_iinc (q := 26) (ls' := [vA 0, vI (i + 1)]) d_M_isInside_23 rfl rfl (by decide) rfl ?_
        refine Rj_goto (t := 2) d_M_isInside_26 (by decide) ?_
        refine ih (by omega) hO hp hw (by omega) (fun j j0 j1 => ?_) hr h1 h0
        by_cases e : j = i
        · rw [e]; exact c18
        · exact hb j j0 (by omega)
      · refine Rj_iconst (q := 22) d_M_isInside_21 rfl ?_
        refine Rj_bret1 d_M_isInside_22 rfl ?_
        exact h1 ((WST_br hO.2.2 hp).mpr ⟨i, by omega, by omega, c18⟩)
theorem WST_rg {f : Int → Int} : ∀ {w : List Int}, WST f (w.map enc) → OPW w → ∀ j, 0 ≤ j → j < (w.length : Int) → i32 (f j)
  | [], _, _, j, j0, j1 => by simp at j1; omega
  | o :: t, h, hp, j, j0, j1 => by
    have l : (((o :: t).length : Nat) : Int) = (t.length : Int) + 1 := by simp
    have h1 : f (t.length : Int) = enc o := by
      have : f (((t.map enc).length : Nat) : Int) = enc o := h.1
      rwa [List.length_map] at this
    by_cases e : j = (t.length : Int)
    · have := enc_rg (hp o (by simp))
      rw [e, h1]; exact ⟨by omega, by omega⟩
    · exact WST_rg h.2 hp.tl j j0 (by omega)
set_option maxHeartbeats 4000000 in
theorem s_M_isInside {μ : Mem} {Q : PV → Mem → Prop} {w : List Int} (hO : OST μ w) (hp : OPW w) (hw : (w.length : Int) ≤ 400) (h1 : 0 < brn w → Q (vI 1) μ) (h0 : ¬ 0 < brn w → Q (vI 0) μ) : Rj YM y_M_isInside 0 [vA 0] [] μ Q := by
  refine Rj_iconst (q := 1) d_M_isInside_0 rfl ?_
  refine Rj_istore_n (q := 2) (ls' := [vA 0, vI 0]) d_M_isInside_1 rfl rfl (by decide) rfl ?_
  exact s_M_isInside_2 _ (Nat.lt_succ_self _) hO hp hw (by omega) (fun j j0 j1 => by omega) (WST_rg hO.2.2 hp) h1 h0
