/-! the reference takes a street that it has read -/
def AXI (σ : StS) : Prop := σ.2.2.2.2.1 = ((cntB (fun j => decide (σ.2.2.2.2.2.2.2 (3 * (j : Int) + 2) = 2)) σ.2.2.2.1.toNat : Nat) : Int) ∧ (0 ≤ σ.2.2.2.2.2.1 ∧ σ.2.2.2.2.2.1 < 4096)
theorem cnt_fset3 {g : Int → Int} {J a b c : Int} (hJ : 0 ≤ J) : cntB (fun j => decide (fset (fset (fset g (3 * J) a) (3 * J + 1) b) (3 * J + 2) c (3 * (j : Int) + 2) = 2)) J.toNat = cntB (fun j => decide (g (3 * (j : Int) + 2) = 2)) J.toNat :=
  cntB_congr _ (fun j hj => by rw [fset_ne _ (show (3 * (j : Int) + 2) ≠ 3 * J + 2 by omega), fset_ne _ (show (3 * (j : Int) + 2) ≠ 3 * J + 1 by omega), fset_ne _ (show (3 * (j : Int) + 2) ≠ 3 * J by omega)])
theorem stClause_ax {A : Int → Int} {n : Int} {σ σ' : StS} (h0 : StOK n σ) (h1 : AXI σ) (h : stClause A n σ = .ok σ') : AXI σ' := by
  obtain ⟨o0, o1, o2, o3, o4, o5, o6⟩ := h0
  obtain ⟨a1, a2⟩ := h1
  unfold stClause at h
  split at h
  · unfold stCl2 at h
    split at h
    · cases h
    · split at h
      · unfold stDoor at h
        split at h
        · cases h
        · split at h
          · cases h
          · split at h
            · cases h
            · cases h; exact ⟨a1, a2⟩
      · split at h
        · unfold stFixed at h
          split at h
          · cases h
          · rename_i e1 d hp
            cases h
            refine ⟨a1, ?_⟩
            have hp := pNum_ok (rn_le (rn_le o0.2)) hp
            dsimp only at hp ⊢
            exact z_or_rng (n := 12) (by decide) a2 (pow_rng (n := 12) ⟨by omega, by omega⟩ (by decide))
        · unfold stJoin at h
          split at h
          · cases h
          · split at h
            · cases h
            · split at h
              · cases h
              · split at h
                · cases h
                · cases h
                  refine ⟨?_, a2⟩
                  dsimp only at *
                  rw [show (σ.2.2.2.1 + 1).toNat = σ.2.2.2.1.toNat + 1 by omega]
                  unfold cntB
                  simp only [show ((σ.2.2.2.1.toNat : Nat) : Int) = σ.2.2.2.1 by omega]
                  rw [fset_same, a1]
                  rw [cnt_fset3 o3.1]
                  by_cases q : stSort A n (sk A n σ.1) = 2
                  · rw [if_pos q, if_pos (decide_eq_true q)]; omega
                  · rw [if_neg q, if_neg (by simpa using q)]; omega
  · cases h
theorem stLoop_inv {A : Int → Int} {n : Int} : ∀ (f : Nat) {σ σ' : StS}, StOK n σ → AXI σ → stLoop A n f σ = .ok σ' → StOK n σ' ∧ AXI σ' ∧ σ'.2.2.1 ≠ 0
  | 0, σ, σ', _, _, h => by cases h
  | f + 1, σ, σ', h0, h1, h => by
    have hs := sk_bd A (n := n) (k := σ.1) h0.1.2
    have hs0 := h0.1.1
    by_cases q : sk A n σ.1 < n ∧ A (sk A n σ.1) = 59
    · have hO : StOK n (sk A n σ.1 + 1, σ.2) := ⟨⟨by dsimp only; omega, by dsimp only; omega⟩, h0.2⟩
      cases hc : stClause A n (sk A n σ.1 + 1, σ.2) with
      | error w => rw [stLoop_bad q hc] at h; cases h
      | ok τ =>
        rw [stLoop_go q hc] at h
        exact stLoop_inv f (stClause_ok hO hc).1 (stClause_ax hO h1 hc) h
    · by_cases q2 : sk A n σ.1 < n
      · rw [stLoop_bad2 q q2] at h; cases h
      · rw [stLoop_end q q2] at h
        split at h
        · cases h
        · rename_i e
          cases h
          exact ⟨⟨⟨by dsimp only; omega, by dsimp only; omega⟩, h0.2⟩, h1, e⟩
theorem StOK_0 {n : Int} (hn : 0 ≤ n) (dr jr : Int → Int) : StOK n (0, 0, 0, 0, 0, 0, dr, jr) ∧ AXI (0, 0, 0, 0, 0, 0, dr, jr) :=
  ⟨⟨⟨Int.le_refl 0, hn⟩, (show (0 : Int) ≤ 0 ∧ (0 : Int) ≤ 32 by decide), (show (0 : Int) ≤ 0 ∧ (0 : Int) ≤ 12 by decide), (show (0 : Int) ≤ 0 ∧ (0 : Int) ≤ 16 by decide), (show (0 : Int) ≤ 0 ∧ (0 : Int) ≤ 3 by decide), fun d h1 h2 => by dsimp only at h2; omega, fun j h1 h2 => by dsimp only at h2; omega⟩, ⟨rfl, (show (0 : Int) ≤ 0 ∧ (0 : Int) < 4096 by decide)⟩⟩
theorem stAll_inv {A : Int → Int} {n : Int} (hn : 0 ≤ n) {dr jr : Int → Int} {σ : StS} (h : stAll A n dr jr = .ok σ) : StOK n σ ∧ AXI σ ∧ σ.2.2.1 ≠ 0 := by
  obtain ⟨a, b⟩ := StOK_0 hn dr jr
  unfold stAll at h
  cases hc : stClause A n (0, 0, 0, 0, 0, 0, dr, jr) with
  | error w => rw [hc] at h; cases h
  | ok τ =>
    rw [hc] at h
    exact stLoop_inv 401 (stClause_ok a hc).1 (stClause_ax a b hc) h
/-- the row of a street that was read -/
def SRW (S : Int → Int) (x : Int) (σ : StS) : Prop := S 0 = σ.2.2.1 ∧ S 1 = σ.2.2.2.1 ∧ S 2 = σ.2.2.2.2.2.1 ∧ S 3 = 0 ∧ S 4 = 0 ∧ S 5 = 0 ∧ S 6 = 0 ∧ S 8 = x ∧ (∀ i, 0 ≤ i → i < 2 * σ.2.2.1 → S (10 + i) = σ.2.2.2.2.2.2.1 i) ∧ (∀ i, 0 ≤ i → i < 3 * σ.2.2.2.1 → S (34 + i) = σ.2.2.2.2.2.2.2 i)
theorem SRW.ok {S : Int → Int} {x n : Int} {σ : StS} (h : SRW S x σ) (hx : 0 ≤ x ∧ x ≤ 2147483647) (h0 : StOK n σ) (h1 : AXI σ) : StK S := by
  obtain ⟨s0, s1, s2, s3, s4, s5, s6, s8, sd, sj⟩ := h
  obtain ⟨o0, o1, o2, o3, o4, o5, o6⟩ := h0
  have jj : ∀ j w, 0 ≤ j → j < σ.2.2.2.1 → 0 ≤ w → w ≤ 2 → jn S j w = σ.2.2.2.2.2.2.2 (3 * j + w) := fun j w j0 j1 w0 w1 => by
    have := sj (3 * j + w) (by omega) (by omega)
    rw [← this]
    exact congrArg S (by omega)
  have hS : StrOK S := by
    refine ⟨by omega, by omega, fun d d0 d1 => ?_, fun j j0 j1 => ?_, ?_⟩
    · have a := sd (2 * d) (by omega) (by omega)
      have b := sd (2 * d + 1) (by omega) (by omega)
      have e : spn S d = S (10 + (2 * d + 1)) := congrArg S (by omega)
      have := o5 d d0 (by omega)
      rw [e, b]
      show (4 ≤ S (10 + 2 * d) ∧ S (10 + 2 * d) ≤ 60) ∧ _ ∧ _ ≤ S (10 + 2 * d)
      rw [a]
      omega
    · have := o6 j j0 (by omega)
      rw [jj j 0 j0 (by omega) (by decide) (by decide), jj j 1 j0 (by omega) (by decide) (by decide), jj j 2 j0 (by omega) (by decide) (by decide), s0, show 3 * j + 0 = 3 * j by omega]
      exact this
    · have e : cntB (axl S) (S 1).toNat = cntB (fun j => decide (σ.2.2.2.2.2.2.2 (3 * (j : Int) + 2) = 2)) σ.2.2.2.1.toNat := by
        rw [s1]
        refine cntB_congr _ (fun j hj => ?_)
        unfold axl
        rw [jj (j : Int) 2 (by omega) (by omega) (by decide) (by decide)]
      have := h1.1
      omega
  have hp : (0 : Int) < 2 ^ (S 0).toNat := Int.pow_pos (by decide)
  refine ⟨hS, by rw [s2]; exact h1.2, by rw [s3]; exact ⟨Int.le_refl 0, hp⟩, by rw [s4]; exact ⟨Int.le_refl 0, hp⟩, by rw [s5]; decide, fun i i0 i1 => by omega, by rw [s6]; decide, fun d d0 d1 d2 => ?_, by rw [s8]; exact hx⟩
  rw [s6, zbit_0] at d2
  exact absurd d2 (by decide)
set_option maxHeartbeats 4000000 in
theorem s_M_street_51 : ∀ (f : Nat) {μ : Mem} {Q : PV → Mem → Prop} {x i : Int}, ((134 - i).toNat < f) → (0 ≤ i ∧ i ≤ 134) → (∀ μ', Fr (fun c j => c = 11 ∧ i ≤ j ∧ j < 134) μ μ' → (∀ j, i ≤ j → j < 134 → μ' 11 (j) = 0) → Rj YM y_M_street 71 [vA 0, vI x] [] μ' Q) → Rj YM y_M_street 51 [vA 0, vI x, vI i] [] μ Q := by
  intro f
  induction f with
  | zero => intro μ Q x i hf hi hk; exact absurd hf (by omega)
  | succ f ih =>
    intro μ Q x i hf hi hk
    refine Rj_iload_n (q := 52) d_M_street_51 rfl rfl rfl ?_
    refine Rj_sipush (q := 55) d_M_street_52 rfl (by decide +kernel) ?_
    refine Rj_icmp_ge (q := 58) (t := 71) d_M_street_55 rfl (by decide) ⟨by omega, by omega⟩ (by decide) (fun c55 => ?_) (fun c55 => ?_)
    · refine Rj_pre (ls' := [vA 0, vI x]) (t := [vI i]) rfl ?_
      exact hk μ (Fr.refl _ _) (fun j j0 j1 => by omega)
    · refine Rj_aload_n (q := 59) d_M_street_58 rfl rfl rfl ?_
      refine Rj_gr (q := 62) (zd := 11) gM_M_42_0 rfl rfl d_M_street_59 rfl ?_
      refine Rj_iload_n (q := 63) d_M_street_62 rfl rfl rfl ?_
      refine Rj_iconst (q := 64) d_M_street_63 rfl ?_
      refine Rj_is (q := 65) aM_11 rfl (by omega) d_M_street_64 rfl ?_
      refine Rj_iinc (q := 68) (ls' := [vA 0, vI x, vI (i + 1)]) d_M_street_65 rfl rfl (by decide) rfl ?_
      refine Rj_goto (t := 51) d_M_street_68 (by decide) ?_
      refine ih (μ := (mset μ 11 i 0)) (by omega) (by omega) (fun m fm q => hk m (Fr.trans (Fr.put (Fr.refl _ _) ⟨rfl, by omega, by omega⟩) (Fr.wide fm (fun c j q => ⟨q.1, by omega, q.2.2⟩))) (fun j j0 j1 => ?_))
      by_cases e : j = i
      · subst e
        rw [fm 11 (j) (by omega), mset_same]
      · exact q j (by omega) j1
set_option maxHeartbeats 4000000 in
theorem s_M_street_111 : ∀ (f : Nat) {μ : Mem} {Q : PV → Mem → Prop} {x i : Int} {D : Int}, ((2 * D - i).toNat < f) → (μ 0 7 = D) → (0 ≤ D ∧ D ≤ 12) → (0 ≤ i ∧ i ≤ 2 * D) → (∀ μ', Fr (fun c j => c = 11 ∧ 10 + i ≤ j ∧ j < 10 + 2 * D) μ μ' → (∀ j, i ≤ j → j < 2 * D → μ' 11 (10 + j) = μ 6 j) → Rj YM y_M_street 142 [vA 0, vI x] [] μ' Q) → Rj YM y_M_street 111 [vA 0, vI x, vI i] [] μ Q := by
  intro f
  induction f with
  | zero => intro μ Q x i D hf h7 hDr hi hk; exact absurd hf (by omega)
  | succ f ih =>
    intro μ Q x i D hf h7 hDr hi hk
    refine Rj_iload_n (q := 112) d_M_street_111 rfl rfl rfl ?_
    refine Rj_iconst (q := 113) d_M_street_112 rfl ?_
    refine Rj_aload_n (q := 114) d_M_street_113 rfl rfl rfl ?_
    refine Rj_gi (q := 117) (ki := 7) (v := D) gM_M_230_0 rfl rfl h7 d_M_street_114 rfl ?_
    refine Rj_imul (q := 118) d_M_street_117 rfl ?_
    refine Rj_icmp_ge (q := 121) (t := 142) d_M_street_118 rfl (by decide) ⟨by omega, by omega⟩ ⟨by omega, by omega⟩ (fun c118 => ?_) (fun c118 => ?_)
    · refine Rj_pre (ls' := [vA 0, vI x]) (t := [vI i]) rfl ?_
      exact hk μ (Fr.refl _ _) (fun j j0 j1 => by omega)
    · refine Rj_aload_n (q := 122) d_M_street_121 rfl rfl rfl ?_
      refine Rj_gr (q := 125) (zd := 11) gM_M_42_0 rfl rfl d_M_street_122 rfl ?_
      refine Rj_bipush (q := 127) d_M_street_125 rfl (by decide +kernel) ?_
      refine Rj_iload_n (q := 128) d_M_street_127 rfl rfl rfl ?_
      refine Rj_iadd (q := 129) d_M_street_128 rfl ?_
      refine Rj_aload_n (q := 130) d_M_street_129 rfl rfl rfl ?_
      refine Rj_gr (q := 133) (zd := 6) gM_M_26_0 rfl rfl d_M_street_130 rfl ?_
      refine Rj_iload_n (q := 134) d_M_street_133 rfl rfl rfl ?_
      refine Rj_ia (q := 135) (v := μ 6 i) aM_6 rfl (by omega) rfl d_M_street_134 rfl ?_
      refine Rj_is (q := 136) aM_11 rfl (by omega) d_M_street_135 rfl ?_
      refine Rj_iinc (q := 139) (ls' := [vA 0, vI x, vI (i + 1)]) d_M_street_136 rfl rfl (by decide) rfl ?_
      refine Rj_goto (t := 111) d_M_street_139 (by decide) ?_
      refine ih (μ := (mset μ 11 (10 + i) (μ 6 i))) (by omega) h7 hDr (by omega) (fun m fm q => hk m (Fr.trans (Fr.put (Fr.refl _ _) ⟨rfl, by omega, by omega⟩) (Fr.wide fm (fun c j q => ⟨q.1, by omega, q.2.2⟩))) (fun j j0 j1 => ?_))
      by_cases e : j = i
      · subst e
        rw [fm 11 (10 + j) (by omega), mset_same]
      · exact q j (by omega) j1
set_option maxHeartbeats 4000000 in
theorem s_M_street_144 : ∀ (f : Nat) {μ : Mem} {Q : PV → Mem → Prop} {x i : Int} {D : Int}, ((3 * D - i).toNat < f) → (μ 0 8 = D) → (0 ≤ D ∧ D ≤ 16) → (0 ≤ i ∧ i ≤ 3 * D) → (∀ μ', Fr (fun c j => c = 11 ∧ 34 + i ≤ j ∧ j < 34 + 3 * D) μ μ' → (∀ j, i ≤ j → j < 3 * D → μ' 11 (34 + j) = μ 7 j) → Rj YM y_M_street 175 [vA 0, vI x] [] μ' Q) → Rj YM y_M_street 144 [vA 0, vI x, vI i] [] μ Q := by
  intro f
  induction f with
  | zero => intro μ Q x i D hf h8 hDr hi hk; exact absurd hf (by omega)
  | succ f ih =>
    intro μ Q x i D hf h8 hDr hi hk
    refine Rj_iload_n (q := 145) d_M_street_144 rfl rfl rfl ?_
    refine Rj_iconst (q := 146) d_M_street_145 rfl ?_
    refine Rj_aload_n (q := 147) d_M_street_146 rfl rfl rfl ?_
    refine Rj_gi (q := 150) (ki := 8) (v := D) gM_M_233_0 rfl rfl h8 d_M_street_147 rfl ?_
    refine Rj_imul (q := 151) d_M_street_150 rfl ?_
    refine Rj_icmp_ge (q := 154) (t := 175) d_M_street_151 rfl (by decide) ⟨by omega, by omega⟩ ⟨by omega, by omega⟩ (fun c151 => ?_) (fun c151 => ?_)
    · refine Rj_pre (ls' := [vA 0, vI x]) (t := [vI i]) rfl ?_
      exact hk μ (Fr.refl _ _) (fun j j0 j1 => by omega)
    · refine Rj_aload_n (q := 155) d_M_street_154 rfl rfl rfl ?_
      refine Rj_gr (q := 158) (zd := 11) gM_M_42_0 rfl rfl d_M_street_155 rfl ?_
      refine Rj_bipush (q := 160) d_M_street_158 rfl (by decide +kernel) ?_
      refine Rj_iload_n (q := 161) d_M_street_160 rfl rfl rfl ?_
      refine Rj_iadd (q := 162) d_M_street_161 rfl ?_
      refine Rj_aload_n (q := 163) d_M_street_162 rfl rfl rfl ?_
      refine Rj_gr (q := 166) (zd := 7) gM_M_29_0 rfl rfl d_M_street_163 rfl ?_
      refine Rj_iload_n (q := 167) d_M_street_166 rfl rfl rfl ?_
      refine Rj_ia (q := 168) (v := μ 7 i) aM_7 rfl (by omega) rfl d_M_street_167 rfl ?_
      refine Rj_is (q := 169) aM_11 rfl (by omega) d_M_street_168 rfl ?_
      refine Rj_iinc (q := 172) (ls' := [vA 0, vI x, vI (i + 1)]) d_M_street_169 rfl rfl (by decide) rfl ?_
      refine Rj_goto (t := 144) d_M_street_172 (by decide) ?_
      refine ih (μ := (mset μ 11 (34 + i) (μ 7 i))) (by omega) h8 hDr (by omega) (fun m fm q => hk m (Fr.trans (Fr.put (Fr.refl _ _) ⟨rfl, by omega, by omega⟩) (Fr.wide fm (fun c j q => ⟨q.1, by omega, q.2.2⟩))) (fun j j0 j1 => ?_))
      by_cases e : j = i
      · subst e
        rw [fm 11 (34 + j) (by omega), mset_same]
      · exact q j (by omega) j1
set_option maxHeartbeats 4000000 in
theorem s_M_street_177 : ∀ (f : Nat) {μ : Mem} {Q : PV → Mem → Prop} {x i : Int}, ((12 - i).toNat < f) → (0 ≤ i ∧ i ≤ 12) → (∀ μ', Fr (fun c j => c = 12 ∧ i ≤ j ∧ j < 12) μ μ' → (∀ j, i ≤ j → j < 12 → μ' 12 (j) = 0) → Rj YM y_M_street 196 [vA 0, vI x] [] μ' Q) → Rj YM y_M_street 177 [vA 0, vI x, vI i] [] μ Q := by
  intro f
  induction f with
  | zero => intro μ Q x i hf hi hk; exact absurd hf (by omega)
  | succ f ih =>
    intro μ Q x i hf hi hk
    refine Rj_iload_n (q := 178) d_M_street_177 rfl rfl rfl ?_
    refine Rj_bipush (q := 180) d_M_street_178 rfl (by decide +kernel) ?_
    refine Rj_icmp_ge (q := 183) (t := 196) d_M_street_180 rfl (by decide) ⟨by omega, by omega⟩ (by decide) (fun c180 => ?_) (fun c180 => ?_)
    · refine Rj_pre (ls' := [vA 0, vI x]) (t := [vI i]) rfl ?_
      exact hk μ (Fr.refl _ _) (fun j j0 j1 => by omega)
    · refine Rj_aload_n (q := 184) d_M_street_183 rfl rfl rfl ?_
      refine Rj_gr (q := 187) (zd := 12) gM_M_45_0 rfl rfl d_M_street_184 rfl ?_
      refine Rj_iload_n (q := 188) d_M_street_187 rfl rfl rfl ?_
      refine Rj_lconst (q := 189) (z := 0) d_M_street_188 rfl rfl ?_
      refine Rj_lst (q := 190) aM_12 rfl (by omega) d_M_street_189 rfl ?_
      refine Rj_iinc (q := 193) (ls' := [vA 0, vI x, vI (i + 1)]) d_M_street_190 rfl rfl (by decide) rfl ?_
      refine Rj_goto (t := 177) d_M_street_193 (by decide) ?_
      refine ih (μ := (mset μ 12 i 0)) (by omega) (by omega) (fun m fm q => hk m (Fr.trans (Fr.put (Fr.refl _ _) ⟨rfl, by omega, by omega⟩) (Fr.wide fm (fun c j q => ⟨q.1, by omega, q.2.2⟩))) (fun j j0 j1 => ?_))
      by_cases e : j = i
      · subst e
        rw [fm 12 (j) (by omega), mset_same]
      · exact q j (by omega) j1
