theorem gD_Bo_30_79 : GI YD "DoorsOnCogs$RuleBook" 30 79 5 none := ⟨by decide, _, _, _, fl_Bo_30, cD_79, by decide, rfl⟩
theorem gD_Bo_18_79 : GI YD "DoorsOnCogs$RuleBook" 18 79 4 (some (some 82)) := ⟨by decide, _, _, _, fl_Bo_18, cD_79, by decide, rfl⟩
theorem aD_82 : AI YD 82 (.long) 400 := ⟨by decide, cD_82, by decide⟩
theorem pD_Bo_30_79 : PI YD "DoorsOnCogs$RuleBook" 30 79 5 none .int := ⟨by decide, _, _, _, fl_Bo_30, fp_4_5, cD_79, by decide, rfl⟩
/-! a rule's code, reckoned: pure; the class's stack -/
def jop (op a b : Int) : Int := if op = 8 then nL (a + b) else if op = 9 then nL (a - b) else if op = 10 then nL (a * b) else if op = 11 then (if b = 0 then 0 else nL (a.tdiv b)) else if op = 12 then (if a < b then 1 else 0) else if op = 13 then (if a ≤ b then 1 else 0) else if op = 14 then (if a = b then 1 else 0) else if op = 15 then (if b ≤ a then 1 else 0) else if op = 16 then (if b < a then 1 else 0) else if op = 17 then zl_and a b else zl_or a b
theorem jop_64 (op a b : Int) : i64 (jop op a b) := by
  unfold jop
  repeat' split
  all_goals first | exact nL_64 _ | exact t64 _ | decide
/-- one sign over a stack -/
def evo (W : Int → Int) (op : Int) (st : List Int) : List Int :=
  if 32 ≤ op then (op - 32) :: st else if op ≤ 7 then W op :: st else if op = 19 then (match st with | a :: t => nL (1 - a) :: t | [] => []) else (match st with | y :: x :: t => jop op x y :: t | s => s)
def ev (W : Int → Int) : List Int → List Int → List Int
  | [], st => st
  | op :: c, st => ev W c (evo W op st)
theorem hst_some {op h a : Int} (q : hst op h = some a) : (((0 ≤ op ∧ op ≤ 7) ∨ (32 ≤ op ∧ op ≤ 100031)) ∧ h < 60 ∧ a = h + 1) ∨ (op = 19 ∧ 1 ≤ h ∧ a = h) ∨ ((8 ≤ op ∧ op ≤ 18) ∧ 2 ≤ h ∧ a = h - 1) := by
  unfold hst at q
  split at q
  · split at q
    · rename_i h1 h2; exact Or.inl ⟨h1, h2, (Option.some.inj q).symm⟩
    · cases q
  · split at q
    · split at q
      · rename_i h1 h2 h3; exact Or.inr (Or.inl ⟨h2, h3, (Option.some.inj q).symm⟩)
      · cases q
    · split at q
      · split at q
        · rename_i h1 h2 h3 h4; exact Or.inr (Or.inr ⟨h3, h4, (Option.some.inj q).symm⟩)
        · cases q
      · cases q
/-- what a sign does, by kinds -/
theorem evo_c {W : Int → Int} {op a : Int} {st : List Int} (q : hst op (st.length : Int) = some a) : ((evo W op st).length : Int) = a ∧
    ((32 ≤ op ∧ op ≤ 100031 ∧ (st.length : Int) < 60 ∧ evo W op st = (op - 32) :: st) ∨ (0 ≤ op ∧ op ≤ 7 ∧ (st.length : Int) < 60 ∧ evo W op st = W op :: st) ∨ (op = 19 ∧ ∃ x t, st = x :: t ∧ evo W op st = nL (1 - x) :: t) ∨ (8 ≤ op ∧ op ≤ 18 ∧ ∃ y x t, st = y :: x :: t ∧ evo W op st = jop op x y :: t)) := by
  rcases hst_some q with ⟨h1, h2, h3⟩ | ⟨h1, h2, h3⟩ | ⟨h1, h2, h3⟩
  · by_cases e : 32 ≤ op
    · have ee : evo W op st = (op - 32) :: st := by unfold evo; rw [if_pos e]
      exact ⟨by rw [ee]; simp; omega, Or.inl ⟨e, by omega, h2, ee⟩⟩
    · have ee : evo W op st = W op :: st := by unfold evo; rw [if_neg e, if_pos (by omega)]
      exact ⟨by rw [ee]; simp; omega, Or.inr (Or.inl ⟨by omega, by omega, h2, ee⟩)⟩
  · cases st with
    | nil => simp at h2
    | cons x t =>
      have ee : evo W op (x :: t) = nL (1 - x) :: t := by unfold evo; rw [if_neg (by omega), if_neg (by omega), if_pos h1]
      refine ⟨?_, Or.inr (Or.inr (Or.inl ⟨h1, x, t, rfl, ee⟩))⟩
      rw [ee, h3]; simp
  · cases st with
    | nil => simp at h2
    | cons y s =>
      cases s with
      | nil => simp at h2
      | cons x t =>
        have ee : evo W op (y :: x :: t) = jop op x y :: t := by unfold evo; rw [if_neg (by omega), if_neg (by omega), if_neg (by omega)]
        refine ⟨?_, Or.inr (Or.inr (Or.inr ⟨h1.1, h1.2, y, x, t, rfl, ee⟩))⟩
        rw [ee, h3, List.length_cons, List.length_cons, List.length_cons]; omega
theorem htf_cons {op h a : Int} {c : List Int} (q : htf (op :: c) h = some a) : ∃ b, hst op h = some b ∧ htf c b = some a := by
  have q : (match hst op h with | none => none | some h' => htf c h') = some a := q
  cases e : hst op h with
  | none => rw [e] at q; cases q
  | some b => rw [e] at q; exact ⟨b, rfl, q⟩
theorem ev_len {W : Int → Int} : ∀ {c st : List Int} {a : Int}, htf c (st.length : Int) = some a → ((ev W c st).length : Int) = a
  | [], st, a, q => Option.some.inj q
  | op :: c, st, a, q => by
    obtain ⟨b, h1, h2⟩ := htf_cons q
    have e := (evo_c (W := W) h1).1
    rw [← e] at h2
    show ((ev W c (evo W op st)).length : Int) = a
    exact ev_len h2
theorem ev_base {W : Int → Int} : ∀ {c st b : List Int} {a : Int}, htf c (st.length : Int) = some a → ev W c (st ++ b) = ev W c st ++ b
  | [], st, b, a, q => rfl
  | op :: c, st, b, a, q => by
    obtain ⟨h, h1, h2⟩ := htf_cons q
    obtain ⟨e, r⟩ := evo_c (W := W) h1
    rw [← e] at h2
    have ee : evo W op (st ++ b) = evo W op st ++ b := by
      rcases r with ⟨r1, r2, r3, r4⟩ | ⟨r1, r2, r3, r4⟩ | ⟨r1, x, t, r3, r4⟩ | ⟨r1, r2, y, x, t, r3, r4⟩
      · rw [r4]; unfold evo; rw [if_pos r1]; rfl
      · rw [r4]; unfold evo; rw [if_neg (by omega), if_pos r2]; rfl
      · rw [r4, r3]; unfold evo; rw [if_neg (by omega), if_neg (by omega), if_pos r1]; rfl
      · rw [r4, r3]; unfold evo; rw [if_neg (by omega), if_neg (by omega), if_neg (by omega)]; rfl
    show ev W c (evo W op (st ++ b)) = ev W c (evo W op st) ++ b
    rw [ee]; exact ev_base h2
/-- all on the stack fit a long -/
def S64 (st : List Int) : Prop := ∀ x ∈ st, i64 x
theorem evo_64 {W : Int → Int} {op a : Int} {st : List Int} (hW : ∀ j, 0 ≤ j → j ≤ 7 → i64 (W j)) (q : hst op (st.length : Int) = some a) (h : S64 st) : S64 (evo W op st) := by
  intro z hz
  rcases (evo_c (W := W) q).2 with ⟨r1, r2, r3, r4⟩ | ⟨r1, r2, r3, r4⟩ | ⟨r1, x, t, r3, r4⟩ | ⟨r1, r2, y, x, t, r3, r4⟩
  · rw [r4] at hz
    rcases List.mem_cons.mp hz with e | e
    · rw [e]; exact ⟨by omega, by omega⟩
    · exact h z e
  · rw [r4] at hz
    rcases List.mem_cons.mp hz with e | e
    · rw [e]; exact hW op r1 r2
    · exact h z e
  · rw [r4] at hz
    rcases List.mem_cons.mp hz with e | e
    · rw [e]; exact nL_64 _
    · exact h z (by rw [r3]; exact List.mem_cons_of_mem _ e)
  · rw [r4] at hz
    rcases List.mem_cons.mp hz with e | e
    · rw [e]; exact jop_64 _ _ _
    · exact h z (by rw [r3]; exact List.mem_cons_of_mem _ (List.mem_cons_of_mem _ e))
theorem ev_64 {W : Int → Int} (hW : ∀ j, 0 ≤ j → j ≤ 7 → i64 (W j)) : ∀ {c st : List Int} {a : Int}, htf c (st.length : Int) = some a → S64 st → S64 (ev W c st)
  | [], _, _, _, h => h
  | op :: c, st, a, q, h => by
    obtain ⟨b, h1, h2⟩ := htf_cons q
    rw [← (evo_c (W := W) h1).1] at h2
    show S64 (ev W c (evo W op st))
    exact ev_64 hW h2 (evo_64 hW h1 h)
def hld (v : Int) : Int := max (-60) (min 60 v)
def top1 (st : List Int) : Int := st.headD 0
/-- by how many teeth: the first clause without a test, or whose test holds -/
def tfD (W : Int → Int) : List CLS → Int
  | [] => 0
  | x :: D => match x.2 with
    | none => hld (top1 (ev W x.1 []))
    | some u => if top1 (ev W u []) = 0 then tfD W D else hld (top1 (ev W x.1 []))
theorem one_of {st : List Int} (h : (st.length : Int) = 1) : ∃ v, st = [v] := by
  cases st with
  | nil => simp at h
  | cons x t =>
    cases t with
    | nil => exact ⟨x, rfl⟩
    | cons y s => simp at h; omega
/-- the class's stack -/
def SST (μ : Mem) (st : List Int) : Prop := μ 79 5 = (st.length : Int) ∧ WST (μ 82) st
abbrev Wsk (c : Nat) (i : Int) : Prop := (c = 79 ∧ i = 5) ∨ c = 82
set_option maxHeartbeats 4000000 in
theorem s_put {μ : Mem} {Q : PV → Mem → Prop} {v : Int} {st : List Int} (h : SST μ st) (hl : (st.length : Int) < 400) (hQ : ∀ μ', Fr Wsk μ μ' → SST μ' (v :: st) → Q vU μ') : Rj YD y_Bo_put 0 [vA 79, vL v, vU] [] μ Q := by
  refine Rj_aload_n (q := 1) d_Bo_put_0 rfl rfl rfl ?_
  refine Rj_gi (q := 4) (ki := 5) (v := (st.length : Int)) gD_Bo_30_79 rfl rfl h.1 d_Bo_put_1 rfl ?_
  refine Rj_aload_n (q := 5) d_Bo_put_4 rfl rfl rfl ?_
  refine Rj_gr (q := 8) (zd := 82) gD_Bo_18_79 rfl rfl d_Bo_put_5 rfl ?_
  refine Rj_al (q := 9) (zn := 400) aD_82 rfl rfl d_Bo_put_8 rfl ?_
  refine Rj_icmp_ge (q := 12) (t := 32) d_Bo_put_9 rfl (by decide) ⟨by omega, by omega⟩ (by decide) (fun c9 => ?_) (fun c9 => ?_)
  · exact absurd c9 (by omega)
  · refine Rj_aload_n (q := 13) d_Bo_put_12 rfl rfl rfl ?_
    refine Rj_gr (q := 16) (zd := 82) gD_Bo_18_79 rfl rfl d_Bo_put_13 rfl ?_
    refine Rj_aload_n (q := 17) d_Bo_put_16 rfl rfl rfl ?_
    refine Rj_gi (q := 20) (ki := 5) (v := (st.length : Int)) gD_Bo_30_79 rfl rfl h.1 d_Bo_put_17 rfl ?_
    refine Rj_lload_n (q := 21) d_Bo_put_20 rfl rfl rfl ?_
    refine Rj_lst (q := 22) aD_82 rfl (by omega) d_Bo_put_21 rfl ?_
    refine Rj_aload_n (q := 23) d_Bo_put_22 rfl rfl rfl ?_
    refine Rj_dup (q := 24) d_Bo_put_23 rfl (by intro h; cases h) ?_
    refine Rj_gi (q := 27) (ki := 5) (v := (st.length : Int)) gD_Bo_30_79 rfl rfl h.1 d_Bo_put_24 rfl ?_
    refine Rj_iconst (q := 28) d_Bo_put_27 rfl ?_
    refine Rj_iadd (q := 29) d_Bo_put_28 rfl ?_
    refine Rj_pi (q := 32) (ki := 5) pD_Bo_30_79 rfl rfl d_Bo_put_29 rfl ?_
    refine Rj_vret d_Bo_put_32 rfl ?_
    exact hQ _ (Fr.put (Fr.put (Fr.refl _ _) (Or.inr rfl)) (Or.inl ⟨rfl, rfl⟩)) ⟨by rw [mset_same]; simp, mset_same _ _ _ _, WST_keep h.2 (fun i i0 i1 => mset_ne _ _ _ _ _ (by omega))⟩
set_option maxHeartbeats 4000000 in
theorem s_take {μ : Mem} {Q : PV → Mem → Prop} {v : Int} {st : List Int} (h : SST μ (v :: st)) (hl : (st.length : Int) < 400) (hQ : ∀ μ', Fr Wsk μ μ' → SST μ' st → Q (vL v) μ') : Rj YD y_Bo_take 0 [vA 79] [] μ Q := by
  have h1 : μ 79 5 = (st.length : Int) + 1 := by rw [h.1]; simp
  have h2 : μ 82 (st.length : Int) = v := h.2.1
  refine Rj_aload_n (q := 1) d_Bo_take_0 rfl rfl rfl ?_
  refine Rj_gi (q := 4) (ki := 5) (v := (st.length : Int) + 1) gD_Bo_30_79 rfl rfl h1 d_Bo_take_1 rfl ?_
  refine Rj_if_gt (q := 7) (t := 9) d_Bo_take_4 rfl (by decide) ⟨by omega, by omega⟩ (fun c4 => ?_) (fun c4 => ?_)
  · refine Rj_aload_n (q := 10) d_Bo_take_9 rfl rfl rfl ?_
    refine Rj_dup (q := 11) d_Bo_take_10 rfl (by intro h; cases h) ?_
    refine Rj_gi (q := 14) (ki := 5) (v := (st.length : Int) + 1) gD_Bo_30_79 rfl rfl h1 d_Bo_take_11 rfl ?_
    refine Rj_iconst (q := 15) d_Bo_take_14 rfl ?_
    refine Rj_isub (q := 16) d_Bo_take_15 rfl ?_
    rw [show ((st.length : Int) + 1) - 1 = (st.length : Int) from (by omega)]
    refine Rj_pi (q := 19) (ki := 5) pD_Bo_30_79 rfl rfl d_Bo_take_16 rfl ?_
    refine Rj_aload_n (q := 20) d_Bo_take_19 rfl rfl rfl ?_
    refine Rj_gr (q := 23) (zd := 82) gD_Bo_18_79 rfl rfl d_Bo_take_20 rfl ?_
    refine Rj_aload_n (q := 24) d_Bo_take_23 rfl rfl rfl ?_
    refine Rj_gi (q := 27) (ki := 5) (v := (st.length : Int)) gD_Bo_30_79 rfl rfl rfl d_Bo_take_24 rfl ?_
    refine Rj_la (q := 28) (v := v) aD_82 rfl (by omega) h2 d_Bo_take_27 rfl ?_
    refine Rj_lret d_Bo_take_28 rfl ?_
    exact hQ _ (Fr.put (Fr.refl _ _) (Or.inl ⟨rfl, rfl⟩)) ⟨mset_same _ _ _ _, h.2.2⟩
  · exact absurd c4 (by omega)
set_option maxHeartbeats 4000000 in
theorem s_J_minX {μ : Mem} {Q : PV → Mem → Prop} {a b : Int} (ha : i64 a) (hb : i64 b) (hQ : Q (vL (min a b)) μ) : Rj YD y_Jmath_min_JJ 0 [vL a, vU, vL b] [] μ Q := by
  refine Rj_lload_n (q := 1) d_Jmath_min_JJ_0 rfl rfl rfl ?_
  refine Rj_lload_n (q := 2) d_Jmath_min_JJ_1 rfl rfl rfl ?_
  refine Rj_lc_gt (q := 3) (q2 := 6) (t := 10) d_Jmath_min_JJ_2 rfl d_Jmath_min_JJ_3 rfl (by decide) (by assumption) (by assumption) (fun c2 => ?_) (fun c2 => ?_)
  · refine Rj_lload_n (q := 11) d_Jmath_min_JJ_10 rfl rfl rfl ?_
    refine Rj_lret d_Jmath_min_JJ_11 rfl ?_
    exact fin_L hQ (by omega)
  · refine Rj_lload_n (q := 7) d_Jmath_min_JJ_6 rfl rfl rfl ?_
    refine Rj_goto (t := 11) d_Jmath_min_JJ_7 (by decide) ?_
    refine Rj_lret d_Jmath_min_JJ_11 rfl ?_
    exact fin_L hQ (by omega)
set_option maxHeartbeats 4000000 in
theorem s_J_maxX {μ : Mem} {Q : PV → Mem → Prop} {a b : Int} (ha : i64 a) (hb : i64 b) (hQ : Q (vL (max a b)) μ) : Rj YD y_Jmath_max 0 [vL a, vU, vL b] [] μ Q := by
  refine Rj_lload_n (q := 1) d_Jmath_max_0 rfl rfl rfl ?_
  refine Rj_lload_n (q := 2) d_Jmath_max_1 rfl rfl rfl ?_
  refine Rj_lc_lt (q := 3) (q2 := 6) (t := 10) d_Jmath_max_2 rfl d_Jmath_max_3 rfl (by decide) (by assumption) (by assumption) (fun c2 => ?_) (fun c2 => ?_)
  · refine Rj_lload_n (q := 11) d_Jmath_max_10 rfl rfl rfl ?_
    refine Rj_lret d_Jmath_max_11 rfl ?_
    exact fin_L hQ (by omega)
  · refine Rj_lload_n (q := 7) d_Jmath_max_6 rfl rfl rfl ?_
    refine Rj_goto (t := 11) d_Jmath_max_7 (by decide) ?_
    refine Rj_lret d_Jmath_max_11 rfl ?_
    exact fin_L hQ (by omega)
set_option maxHeartbeats 4000000 in
theorem s_held {μ : Mem} {Q : PV → Mem → Prop} {v : Int} (hv : i64 v) (hQ : Q (vI (hld v)) μ) : Rj YD y_Bo_held 0 [vL v, vU] [] μ Q := by
  have hv1 := hv.1
  have hv2 := hv.2
  refine Rj_ldc2 (q := 3) k_Bo_53 d_Bo_held_0 rfl ?_
  refine Rj_ldc2 (q := 6) k_Bo_55 d_Bo_held_3 rfl ?_
  refine Rj_lload_n (q := 7) d_Bo_held_6 rfl rfl rfl ?_
  refine Rj_cs (q := 10) (z := y_Jmath_min_JJ) (as := [vL 60, vL v]) (rest := [vL (-60)]) (la := [vL 60, vU, vL v, vU]) ml_Bo_57 mw_Jmath_min_JJ ms_Jmath_min_JJ d_Bo_held_7 rfl rfl rfl rfl rfl ?_
  refine s_J_minX (by decide) hv ?_
  refine Rj_cs (q := 13) (z := y_Jmath_max) (as := [vL (-60), vL (min 60 v)]) (rest := []) (la := [vL (-60), vU, vL (min 60 v), vU]) ml_Bo_63 mw_Jmath_max ms_Jmath_max d_Bo_held_10 rfl rfl rfl rfl rfl ?_
  refine s_J_maxX (by decide) ⟨by omega, by omega⟩ ?_
  refine Rj_l2i (q := 14) d_Bo_held_13 rfl ?_
  refine Rj_iret d_Bo_held_14 rfl ?_
  exact hQ
set_option maxHeartbeats 4000000 in
theorem s_holds {μ : Mem} {Q : PV → Mem → Prop} {op a b : Int} (ho : 12 ≤ op ∧ op ≤ 16) (ha : i64 a) (hb : i64 b) (h1 : jop op a b = 1 → Q (vI 1) μ) (h0 : jop op a b = 0 → Q (vI 0) μ) : Rj YD y_Bo_holds 0 [vI op, vL a, vU, vL b, vU] [] μ Q := by
  refine Rj_iload_n (q := 1) d_Bo_holds_0 rfl rfl rfl ?_
  rcases (show op = 12 ∨ op = 13 ∨ op = 14 ∨ op = 15 ∨ (op < 12 ∨ 15 < op) by omega) with hs1 | hs1 | hs1 | hs1 | hs1
  · refine Rj_tsI (t := 32) d_Bo_holds_1 ⟨by omega, by omega⟩ (by omega) (by omega) (by rw [hs1]; rfl) (by decide) ?_
    refine Rj_lload_n (q := 33) d_Bo_holds_32 rfl rfl rfl ?_
    refine Rj_lload_n (q := 34) d_Bo_holds_33 rfl rfl rfl ?_
    refine Rj_lc_ge (q := 35) (q2 := 38) (t := 42) d_Bo_holds_34 rfl d_Bo_holds_35 rfl (by decide) (by assumption) (by assumption) (fun c34 => ?_) (fun c34 => ?_)
    · refine Rj_iconst (q := 43) d_Bo_holds_42 rfl ?_
      refine Rj_bret0 d_Bo_holds_43 rfl ?_
      have eo : op = 12 := by omega
      exact h0 (by rw [eo]; show (if a < b then (1 : Int) else 0) = 0; rw [if_neg (by omega)])
    · refine Rj_iconst (q := 39) d_Bo_holds_38 rfl ?_
      refine Rj_goto (t := 43) d_Bo_holds_39 (by decide) ?_
      refine Rj_bret1 d_Bo_holds_43 rfl ?_
      have eo : op = 12 := by omega
      exact h1 (by rw [eo]; show (if a < b then (1 : Int) else 0) = 1; rw [if_pos (by omega)])
  · refine Rj_tsI (t := 44) d_Bo_holds_1 ⟨by omega, by omega⟩ (by omega) (by omega) (by rw [hs1]; rfl) (by decide) ?_
    refine Rj_lload_n (q := 45) d_Bo_holds_44 rfl rfl rfl ?_
    refine Rj_lload_n (q := 46) d_Bo_holds_45 rfl rfl rfl ?_
    refine Rj_lc_gt (q := 47) (q2 := 50) (t := 54) d_Bo_holds_46 rfl d_Bo_holds_47 rfl (by decide) (by assumption) (by assumption) (fun c46 => ?_) (fun c46 => ?_)
    · refine Rj_iconst (q := 55) d_Bo_holds_54 rfl ?_
      refine Rj_bret0 d_Bo_holds_55 rfl ?_
      have eo : op = 13 := by omega
      exact h0 (by rw [eo]; show (if a ≤ b then (1 : Int) else 0) = 0; rw [if_neg (by omega)])
    · refine Rj_iconst (q := 51) d_Bo_holds_50 rfl ?_
      refine Rj_goto (t := 55) d_Bo_holds_51 (by decide) ?_
      refine Rj_bret1 d_Bo_holds_55 rfl ?_
      have eo : op = 13 := by omega
      exact h1 (by rw [eo]; show (if a ≤ b then (1 : Int) else 0) = 1; rw [if_pos (by omega)])
  · refine Rj_tsI (t := 56) d_Bo_holds_1 ⟨by omega, by omega⟩ (by omega) (by omega) (by rw [hs1]; rfl) (by decide) ?_
    refine Rj_lload_n (q := 57) d_Bo_holds_56 rfl rfl rfl ?_
    refine Rj_lload_n (q := 58) d_Bo_holds_57 rfl rfl rfl ?_
    refine Rj_lc_ne (q := 59) (q2 := 62) (t := 66) d_Bo_holds_58 rfl d_Bo_holds_59 rfl (by decide) (by assumption) (by assumption) (fun c58 => ?_) (fun c58 => ?_)
    · refine Rj_iconst (q := 67) d_Bo_holds_66 rfl ?_
      refine Rj_bret0 d_Bo_holds_67 rfl ?_
      have eo : op = 14 := by omega
      exact h0 (by rw [eo]; show (if a = b then (1 : Int) else 0) = 0; rw [if_neg (by omega)])
    · refine Rj_iconst (q := 63) d_Bo_holds_62 rfl ?_
      refine Rj_goto (t := 67) d_Bo_holds_63 (by decide) ?_
      refine Rj_bret1 d_Bo_holds_67 rfl ?_
      have eo : op = 14 := by omega
      exact h1 (by rw [eo]; show (if a = b then (1 : Int) else 0) = 1; rw [if_pos (by omega)])
  · refine Rj_tsI (t := 68) d_Bo_holds_1 ⟨by omega, by omega⟩ (by omega) (by omega) (by rw [hs1]; rfl) (by decide) ?_
    refine Rj_lload_n (q := 69) d_Bo_holds_68 rfl rfl rfl ?_
    refine Rj_lload_n (q := 70) d_Bo_holds_69 rfl rfl rfl ?_
    refine Rj_lc_lt (q := 71) (q2 := 74) (t := 78) d_Bo_holds_70 rfl d_Bo_holds_71 rfl (by decide) (by assumption) (by assumption) (fun c70 => ?_) (fun c70 => ?_)
    · refine Rj_iconst (q := 79) d_Bo_holds_78 rfl ?_
      refine Rj_bret0 d_Bo_holds_79 rfl ?_
      have eo : op = 15 := by omega
      exact h0 (by rw [eo]; show (if b ≤ a then (1 : Int) else 0) = 0; rw [if_neg (by omega)])
    · refine Rj_iconst (q := 75) d_Bo_holds_74 rfl ?_
      refine Rj_goto (t := 79) d_Bo_holds_75 (by decide) ?_
      refine Rj_bret1 d_Bo_holds_79 rfl ?_
      have eo : op = 15 := by omega
      exact h1 (by rw [eo]; show (if b ≤ a then (1 : Int) else 0) = 1; rw [if_pos (by omega)])
  · refine Rj_tsO (t := 80) d_Bo_holds_1 ⟨by omega, by omega⟩ hs1 (by decide) ?_
    refine Rj_lload_n (q := 81) d_Bo_holds_80 rfl rfl rfl ?_
    refine Rj_lload_n (q := 82) d_Bo_holds_81 rfl rfl rfl ?_
    refine Rj_lc_le (q := 83) (q2 := 86) (t := 90) d_Bo_holds_82 rfl d_Bo_holds_83 rfl (by decide) (by assumption) (by assumption) (fun c82 => ?_) (fun c82 => ?_)
    · refine Rj_iconst (q := 91) d_Bo_holds_90 rfl ?_
      refine Rj_bret0 d_Bo_holds_91 rfl ?_
      have eo : op = 16 := by omega
      exact h0 (by rw [eo]; show (if b < a then (1 : Int) else 0) = 0; rw [if_neg (by omega)])
    · refine Rj_iconst (q := 87) d_Bo_holds_86 rfl ?_
      refine Rj_goto (t := 91) d_Bo_holds_87 (by decide) ?_
      refine Rj_bret1 d_Bo_holds_91 rfl ?_
      have eo : op = 16 := by omega
      exact h1 (by rw [eo]; show (if b < a then (1 : Int) else 0) = 1; rw [if_pos (by omega)])
set_option maxHeartbeats 4000000 in
theorem s_joined {μ : Mem} {Q : PV → Mem → Prop} {op a b : Int} (ho : 8 ≤ op ∧ op ≤ 18) (ha : i64 a) (hb : i64 b) (hQ : Q (vL (jop op a b)) μ) : Rj YD y_Bo_joined 0 [vI op, vL a, vU, vL b, vU] [] μ Q := by
  refine Rj_iload_n (q := 1) d_Bo_joined_0 rfl rfl rfl ?_
  rcases (show op = 8 ∨ op = 9 ∨ op = 10 ∨ op = 11 ∨ op = 12 ∨ op = 13 ∨ op = 14 ∨ op = 15 ∨ op = 16 ∨ op = 17 ∨ op = 18 ∨ (op < 8 ∨ 18 < op) by omega) with hs1 | hs1 | hs1 | hs1 | hs1 | hs1 | hs1 | hs1 | hs1 | hs1 | hs1 | hs1
  · refine Rj_tsI (t := 60) d_Bo_joined_1 ⟨by omega, by omega⟩ (by omega) (by omega) (by rw [hs1]; rfl) (by decide) ?_
    refine Rj_lload_n (q := 61) d_Bo_joined_60 rfl rfl rfl ?_
    refine Rj_lload_n (q := 62) d_Bo_joined_61 rfl rfl rfl ?_
    refine Rj_ladd (q := 63) d_Bo_joined_62 rfl ?_
    refine Rj_nl (z' := nL (a + b)) (nL_eq _) ?_
    refine Rj_lret d_Bo_joined_63 rfl ?_
    have eo : op = 8 := by omega
    exact fin_L hQ (by rw [eo]; rfl)
  · refine Rj_tsI (t := 64) d_Bo_joined_1 ⟨by omega, by omega⟩ (by omega) (by omega) (by rw [hs1]; rfl) (by decide) ?_
    refine Rj_lload_n (q := 65) d_Bo_joined_64 rfl rfl rfl ?_
    refine Rj_lload_n (q := 66) d_Bo_joined_65 rfl rfl rfl ?_
    refine Rj_lsub (q := 67) d_Bo_joined_66 rfl ?_
    refine Rj_nl (z' := nL (a - b)) (nL_eq _) ?_
    refine Rj_lret d_Bo_joined_67 rfl ?_
    have eo : op = 9 := by omega
    exact fin_L hQ (by rw [eo]; rfl)
  · refine Rj_tsI (t := 68) d_Bo_joined_1 ⟨by omega, by omega⟩ (by omega) (by omega) (by rw [hs1]; rfl) (by decide) ?_
    refine Rj_lload_n (q := 69) d_Bo_joined_68 rfl rfl rfl ?_
    refine Rj_lload_n (q := 70) d_Bo_joined_69 rfl rfl rfl ?_
    refine Rj_lmul (q := 71) d_Bo_joined_70 rfl ?_
    refine Rj_nl (z' := nL (a * b)) (nL_eq _) ?_
    refine Rj_lret d_Bo_joined_71 rfl ?_
    have eo : op = 10 := by omega
    exact fin_L hQ (by rw [eo]; rfl)
  · refine Rj_tsI (t := 72) d_Bo_joined_1 ⟨by omega, by omega⟩ (by omega) (by omega) (by rw [hs1]; rfl) (by decide) ?_
    refine Rj_lload_n (q := 73) d_Bo_joined_72 rfl rfl rfl ?_
    refine Rj_lconst (q := 74) (z := 0) d_Bo_joined_73 rfl rfl ?_
    refine Rj_lc_ne (q := 75) (q2 := 78) (t := 82) d_Bo_joined_74 rfl d_Bo_joined_75 rfl (by decide) (by assumption) (by decide) (fun c74 => ?_) (fun c74 => ?_)
    · refine Rj_lload_n (q := 83) d_Bo_joined_82 rfl rfl rfl ?_
      refine Rj_lload_n (q := 84) d_Bo_joined_83 rfl rfl rfl ?_
      refine Rj_ldiv (q := 85) d_Bo_joined_84 rfl (by assumption) (by assumption) (by omega) ?_
      refine Rj_nl (z' := nL (a.tdiv b)) (nL_eq _) ?_
      refine Rj_lret d_Bo_joined_85 rfl ?_
      have eo : op = 11 := by omega
      exact fin_L hQ (by rw [eo]; show (if b = 0 then 0 else nL (a.tdiv b)) = _; rw [if_neg (by omega)])
    · refine Rj_lconst (q := 79) (z := 0) d_Bo_joined_78 rfl rfl ?_
      refine Rj_goto (t := 85) d_Bo_joined_79 (by decide) ?_
      refine Rj_lret d_Bo_joined_85 rfl ?_
      have eo : op = 11 := by omega
      exact fin_L hQ (by rw [eo]; show (if b = 0 then 0 else nL (a.tdiv b)) = _; rw [if_pos (by omega)])
  · refine Rj_tsI (t := 94) d_Bo_joined_1 ⟨by omega, by omega⟩ (by omega) (by omega) (by rw [hs1]; rfl) (by decide) ?_
    refine Rj_iload_n (q := 95) d_Bo_joined_94 rfl rfl rfl ?_
    refine Rj_lload_n (q := 96) d_Bo_joined_95 rfl rfl rfl ?_
    refine Rj_lload_n (q := 97) d_Bo_joined_96 rfl rfl rfl ?_
    refine Rj_cs (q := 100) (z := y_Bo_holds) (as := [vI op, vL a, vL b]) (rest := []) (la := [vI op, vL a, vU, vL b, vU]) ml_Bo_115 mw_Bo_holds ms_Bo_holds d_Bo_joined_97 rfl rfl rfl rfl rfl ?_
    refine s_holds (by omega) ha hb (fun q => ?_) (fun q => ?_)
    · have zz := True.intro
      refine Rj_if_eq (q := 103) (t := 107) d_Bo_joined_100 rfl (by decide) (by decide) (fun c => absurd c (by decide)) (fun _ => ?_)
      refine Rj_lconst (q := 104) (z := 1) d_Bo_joined_103 rfl rfl ?_
      refine Rj_goto (t := 108) d_Bo_joined_104 (by decide) ?_
      refine Rj_lret d_Bo_joined_108 rfl ?_
      exact fin_L hQ q
    · have zz := True.intro
      refine Rj_if_eq (q := 103) (t := 107) d_Bo_joined_100 rfl (by decide) (by decide) (fun _ => ?_) (fun c => absurd c (by decide))
      refine Rj_lconst (q := 108) (z := 0) d_Bo_joined_107 rfl rfl ?_
      refine Rj_lret d_Bo_joined_108 rfl ?_
      exact fin_L hQ q
  · refine Rj_tsI (t := 94) d_Bo_joined_1 ⟨by omega, by omega⟩ (by omega) (by omega) (by rw [hs1]; rfl) (by decide) ?_
    refine Rj_iload_n (q := 95) d_Bo_joined_94 rfl rfl rfl ?_
    refine Rj_lload_n (q := 96) d_Bo_joined_95 rfl rfl rfl ?_
    refine Rj_lload_n (q := 97) d_Bo_joined_96 rfl rfl rfl ?_
    refine Rj_cs (q := 100) (z := y_Bo_holds) (as := [vI op, vL a, vL b]) (rest := []) (la := [vI op, vL a, vU, vL b, vU]) ml_Bo_115 mw_Bo_holds ms_Bo_holds d_Bo_joined_97 rfl rfl rfl rfl rfl ?_
    refine s_holds (by omega) ha hb (fun q => ?_) (fun q => ?_)
    · have zz := True.intro
      refine Rj_if_eq (q := 103) (t := 107) d_Bo_joined_100 rfl (by decide) (by decide) (fun c => absurd c (by decide)) (fun _ => ?_)
      refine Rj_lconst (q := 104) (z := 1) d_Bo_joined_103 rfl rfl ?_
      refine Rj_goto (t := 108) d_Bo_joined_104 (by decide) ?_
      refine Rj_lret d_Bo_joined_108 rfl ?_
      exact fin_L hQ q
    · have zz := True.intro
      refine Rj_if_eq (q := 103) (t := 107) d_Bo_joined_100 rfl (by decide) (by decide) (fun _ => ?_) (fun c => absurd c (by decide))
      refine Rj_lconst (q := 108) (z := 0) d_Bo_joined_107 rfl rfl ?_
      refine Rj_lret d_Bo_joined_108 rfl ?_
      exact fin_L hQ q
  · refine Rj_tsI (t := 94) d_Bo_joined_1 ⟨by omega, by omega⟩ (by omega) (by omega) (by rw [hs1]; rfl) (by decide) ?_
    refine Rj_iload_n (q := 95) d_Bo_joined_94 rfl rfl rfl ?_
    refine Rj_lload_n (q := 96) d_Bo_joined_95 rfl rfl rfl ?_
    refine Rj_lload_n (q := 97) d_Bo_joined_96 rfl rfl rfl ?_
    refine Rj_cs (q := 100) (z := y_Bo_holds) (as := [vI op, vL a, vL b]) (rest := []) (la := [vI op, vL a, vU, vL b, vU]) ml_Bo_115 mw_Bo_holds ms_Bo_holds d_Bo_joined_97 rfl rfl rfl rfl rfl ?_
    refine s_holds (by omega) ha hb (fun q => ?_) (fun q => ?_)
    · have zz := True.intro
      refine Rj_if_eq (q := 103) (t := 107) d_Bo_joined_100 rfl (by decide) (by decide) (fun c => absurd c (by decide)) (fun _ => ?_)
      refine Rj_lconst (q := 104) (z := 1) d_Bo_joined_103 rfl rfl ?_
      refine Rj_goto (t := 108) d_Bo_joined_104 (by decide) ?_
      refine Rj_lret d_Bo_joined_108 rfl ?_
      exact fin_L hQ q
    · have zz := True.intro
      refine Rj_if_eq (q := 103) (t := 107) d_Bo_joined_100 rfl (by decide) (by decide) (fun _ => ?_) (fun c => absurd c (by decide))
      refine Rj_lconst (q := 108) (z := 0) d_Bo_joined_107 rfl rfl ?_
      refine Rj_lret d_Bo_joined_108 rfl ?_
      exact fin_L hQ q
  · refine Rj_tsI (t := 94) d_Bo_joined_1 ⟨by omega, by omega⟩ (by omega) (by omega) (by rw [hs1]; rfl) (by decide) ?_
    refine Rj_iload_n (q := 95) d_Bo_joined_94 rfl rfl rfl ?_
    refine Rj_lload_n (q := 96) d_Bo_joined_95 rfl rfl rfl ?_
    refine Rj_lload_n (q := 97) d_Bo_joined_96 rfl rfl rfl ?_
    refine Rj_cs (q := 100) (z := y_Bo_holds) (as := [vI op, vL a, vL b]) (rest := []) (la := [vI op, vL a, vU, vL b, vU]) ml_Bo_115 mw_Bo_holds ms_Bo_holds d_Bo_joined_97 rfl rfl rfl rfl rfl ?_
    refine s_holds (by omega) ha hb (fun q => ?_) (fun q => ?_)
    · have zz := True.intro
      refine Rj_if_eq (q := 103) (t := 107) d_Bo_joined_100 rfl (by decide) (by decide) (fun c => absurd c (by decide)) (fun _ => ?_)
      refine Rj_lconst (q := 104) (z := 1) d_Bo_joined_103 rfl rfl ?_
      refine Rj_goto (t := 108) d_Bo_joined_104 (by decide) ?_
      refine Rj_lret d_Bo_joined_108 rfl ?_
      exact fin_L hQ q
    · have zz := True.intro
      refine Rj_if_eq (q := 103) (t := 107) d_Bo_joined_100 rfl (by decide) (by decide) (fun _ => ?_) (fun c => absurd c (by decide))
      refine Rj_lconst (q := 108) (z := 0) d_Bo_joined_107 rfl rfl ?_
      refine Rj_lret d_Bo_joined_108 rfl ?_
      exact fin_L hQ q
  · refine Rj_tsI (t := 94) d_Bo_joined_1 ⟨by omega, by omega⟩ (by omega) (by omega) (by rw [hs1]; rfl) (by decide) ?_
    refine Rj_iload_n (q := 95) d_Bo_joined_94 rfl rfl rfl ?_
    refine Rj_lload_n (q := 96) d_Bo_joined_95 rfl rfl rfl ?_
    refine Rj_lload_n (q := 97) d_Bo_joined_96 rfl rfl rfl ?_
    refine Rj_cs (q := 100) (z := y_Bo_holds) (as := [vI op, vL a, vL b]) (rest := []) (la := [vI op, vL a, vU, vL b, vU]) ml_Bo_115 mw_Bo_holds ms_Bo_holds d_Bo_joined_97 rfl rfl rfl rfl rfl ?_
    refine s_holds (by omega) ha hb (fun q => ?_) (fun q => ?_)
    · have zz := True.intro
      refine Rj_if_eq (q := 103) (t := 107) d_Bo_joined_100 rfl (by decide) (by decide) (fun c => absurd c (by decide)) (fun _ => ?_)
      refine Rj_lconst (q := 104) (z := 1) d_Bo_joined_103 rfl rfl ?_
      refine Rj_goto (t := 108) d_Bo_joined_104 (by decide) ?_
      refine Rj_lret d_Bo_joined_108 rfl ?_
      exact fin_L hQ q
    · have zz := True.intro
      refine Rj_if_eq (q := 103) (t := 107) d_Bo_joined_100 rfl (by decide) (by decide) (fun _ => ?_) (fun c => absurd c (by decide))
      refine Rj_lconst (q := 108) (z := 0) d_Bo_joined_107 rfl rfl ?_
      refine Rj_lret d_Bo_joined_108 rfl ?_
      exact fin_L hQ q
  · refine Rj_tsI (t := 86) d_Bo_joined_1 ⟨by omega, by omega⟩ (by omega) (by omega) (by rw [hs1]; rfl) (by decide) ?_
    refine Rj_lload_n (q := 87) d_Bo_joined_86 rfl rfl rfl ?_
    refine Rj_lload_n (q := 88) d_Bo_joined_87 rfl rfl rfl ?_
    refine Rj_land (q := 89) (z := zl_and a b) d_Bo_joined_88 rfl rfl ?_
    refine Rj_lret d_Bo_joined_89 rfl ?_
    have eo : op = 17 := by omega
    exact fin_L hQ (by rw [eo]; rfl)
  · refine Rj_tsI (t := 90) d_Bo_joined_1 ⟨by omega, by omega⟩ (by omega) (by omega) (by rw [hs1]; rfl) (by decide) ?_
    refine Rj_lload_n (q := 91) d_Bo_joined_90 rfl rfl rfl ?_
    refine Rj_lload_n (q := 92) d_Bo_joined_91 rfl rfl rfl ?_
    refine Rj_lor (q := 93) (z := zl_or a b) d_Bo_joined_92 rfl rfl ?_
    refine Rj_lret d_Bo_joined_93 rfl ?_
    have eo : op = 18 := by omega
    exact fin_L hQ (by rw [eo]; rfl)
  · refine Rj_tsO (t := 94) d_Bo_joined_1 ⟨by omega, by omega⟩ hs1 (by decide) ?_
    refine Rj_iload_n (q := 95) d_Bo_joined_94 rfl rfl rfl ?_
    refine Rj_lload_n (q := 96) d_Bo_joined_95 rfl rfl rfl ?_
    refine Rj_lload_n (q := 97) d_Bo_joined_96 rfl rfl rfl ?_
    refine Rj_cs (q := 100) (z := y_Bo_holds) (as := [vI op, vL a, vL b]) (rest := []) (la := [vI op, vL a, vU, vL b, vU]) ml_Bo_115 mw_Bo_holds ms_Bo_holds d_Bo_joined_97 rfl rfl rfl rfl rfl ?_
    refine s_holds (by omega) ha hb (fun q => ?_) (fun q => ?_)
    · have zz := True.intro
      refine Rj_if_eq (q := 103) (t := 107) d_Bo_joined_100 rfl (by decide) (by decide) (fun c => absurd c (by decide)) (fun _ => ?_)
      refine Rj_lconst (q := 104) (z := 1) d_Bo_joined_103 rfl rfl ?_
      refine Rj_goto (t := 108) d_Bo_joined_104 (by decide) ?_
      refine Rj_lret d_Bo_joined_108 rfl ?_
      exact fin_L hQ q
    · have zz := True.intro
      refine Rj_if_eq (q := 103) (t := 107) d_Bo_joined_100 rfl (by decide) (by decide) (fun _ => ?_) (fun c => absurd c (by decide))
      refine Rj_lconst (q := 108) (z := 0) d_Bo_joined_107 rfl rfl ?_
      refine Rj_lret d_Bo_joined_108 rfl ?_
      exact fin_L hQ q
