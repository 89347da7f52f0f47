theorem gD_Sp_25_2 : GI YD "DoorsOnCogs$Script" 25 2 2 none := ⟨by decide, _, _, _, fl_Sp_25, cD_2, by decide, rfl⟩
theorem gD_Sp_21_2 : GI YD "DoorsOnCogs$Script" 21 2 1 none := ⟨by decide, _, _, _, fl_Sp_21, cD_2, by decide, rfl⟩
theorem gD_Sp_9_2 : GI YD "DoorsOnCogs$Script" 9 2 0 (some (some 1)) := ⟨by decide, _, _, _, fl_Sp_9, cD_2, by decide, rfl⟩
theorem pD_Sp_25_2 : PI YD "DoorsOnCogs$Script" 25 2 2 none .int := ⟨by decide, _, _, _, fl_Sp_25, fp_7_2, cD_2, by decide, rfl⟩
theorem oD_2_Sp_byteAt : OI YD 2 y_Sp_byteAt := ⟨by decide, _, _, _, cD_2, rfl⟩
theorem oD_2_Sp_nextSign : OI YD 2 y_Sp_nextSign := ⟨by decide, _, _, _, cD_2, rfl⟩
/-! the class reads a text: signs, words, numbers -/
/-- the class's text: A are its signs as the reference has them -/
def TD (μ : Mem) (A : Int → Int) (n : Int) : Prop := TX A n ∧ μ 2 1 = n ∧ ∀ i, 0 ≤ i → i < 400 → (μ 1 i = A i ∧ 0 ≤ A i) ∨ (μ 1 i = A i + 256 ∧ A i < 0)
theorem TD.at {μ : Mem} {A : Int → Int} {n : Int} (h : TD μ A n) {i : Int} (h0 : 0 ≤ i) (h1 : i < n) : ((μ 1 i = A i ∧ 0 ≤ A i) ∨ (μ 1 i = A i + 256 ∧ A i < 0)) ∧ (-128 ≤ A i ∧ A i ≤ 127) := by
  have := h.1.1
  exact ⟨h.2.2 i h0 (by omega), h.1.2 i h0 (by omega)⟩
theorem TD.keep {μ ν : Mem} {A : Int → Int} {n : Int} (h : TD μ A n) (e : ν 2 1 = μ 2 1) (e1 : ν 1 = μ 1) : TD ν A n := by
  unfold TD; rw [e, e1]; exact h
/-- the sign at a place, or -1 behind the end -/
def nsV (μ : Mem) (n k : Int) : Int := if k < n then μ 1 k else -1
theorem nsV_eq {μ : Mem} {A : Int → Int} {n k c : Int} (h : TD μ A n) (h0 : 0 ≤ k) (hc : 0 ≤ c ∧ c ≤ 127) : nsV μ n k = c ↔ k < n ∧ A k = c := by
  unfold nsV
  by_cases e : k < n
  · rw [if_pos e]
    have := h.at h0 e
    omega
  · rw [if_neg e]; omega
theorem nsV_rng {μ : Mem} {A : Int → Int} {n k : Int} (h : TD μ A n) (h0 : 0 ≤ k) : (-1 ≤ nsV μ n k ∧ nsV μ n k ≤ 255) ∧ (nsV μ n k = -1 ↔ ¬ k < n) ∧ (∀ a b, 0 ≤ a → b ≤ 127 → ((a ≤ nsV μ n k ∧ nsV μ n k ≤ b) ↔ (k < n ∧ a ≤ A k ∧ A k ≤ b))) := by
  unfold nsV
  by_cases e : k < n
  · rw [if_pos e]
    have := h.at h0 e
    refine ⟨by omega, by omega, fun a b ha hb => by omega⟩
  · rw [if_neg e]
    exact ⟨by omega, by omega, fun a b ha hb => by omega⟩
set_option maxHeartbeats 4000000 in
theorem s_next_f : ∀ (f : Nat) {μ : Mem} {Q : PV → Mem → Prop} {A : Int → Int} {n k : Int}, ((n - k).toNat < f) → (TD μ A n) → (μ 2 2 = k) → (0 ≤ k ∧ k ≤ n) → (Q (vI (nsV μ n (sk A n k))) (mset μ 2 2 (sk A n k))) → Rj YD y_Sp_nextSign 0 [vA 2] [] μ Q := by
  intro f
  induction f with
  | zero => intro μ Q A n k hf hT hk h0 hQ; exact absurd hf (by omega)
  | succ f ih =>
    intro μ Q A n k hf hT hk h0 hQ
    have hn := hT.2.1
    have hX := hT.1.1
    refine Rj_aload_n (q := 1) d_Sp_nextSign_0 rfl rfl rfl ?_
    refine Rj_gi (q := 4) (ki := 2) (v := k) gD_Sp_25_2 rfl rfl hk d_Sp_nextSign_1 rfl ?_
    refine Rj_aload_n (q := 5) d_Sp_nextSign_4 rfl rfl rfl ?_
    refine Rj_gi (q := 8) (ki := 1) (v := n) gD_Sp_21_2 rfl rfl hn d_Sp_nextSign_5 rfl ?_
    refine Rj_icmp_ge (q := 11) (t := 38) d_Sp_nextSign_8 rfl (by decide) (by first | exact ⟨by omega, by omega⟩ | (constructor <;> omega)) (by first | exact ⟨by omega, by omega⟩ | (constructor <;> omega)) (fun c8 => ?_) (fun c8 => ?_)
    · have e1 : sk A n k = k := rn_stop (fun h => by omega)
      rw [e1, ← hk, mset_id] at hQ
      rw [hk] at hQ
      unfold nsV at hQ
      refine Rj_aload_n (q := 39) d_Sp_nextSign_38 rfl rfl rfl ?_
      refine Rj_gi (q := 42) (ki := 2) (v := k) gD_Sp_25_2 rfl rfl hk d_Sp_nextSign_39 rfl ?_
      refine Rj_aload_n (q := 43) d_Sp_nextSign_42 rfl rfl rfl ?_
      refine Rj_gi (q := 46) (ki := 1) (v := n) gD_Sp_21_2 rfl rfl hn d_Sp_nextSign_43 rfl ?_
      refine Rj_icmp_ge (q := 49) (t := 61) d_Sp_nextSign_46 rfl (by decide) (by first | exact ⟨by omega, by omega⟩ | (constructor <;> omega)) (by first | exact ⟨by omega, by omega⟩ | (constructor <;> omega)) (fun c46 => ?_) (fun c46 => ?_)
      · rw [if_neg (by omega)] at hQ
        refine Rj_iconst (q := 62) d_Sp_nextSign_61 rfl ?_
        refine Rj_iret d_Sp_nextSign_62 rfl ?_
        exact hQ
      · rw [if_pos (by omega)] at hQ
        refine Rj_aload_n (q := 50) d_Sp_nextSign_49 rfl rfl rfl ?_
        refine Rj_gr (q := 53) (zd := 1) gD_Sp_9_2 rfl rfl d_Sp_nextSign_50 rfl ?_
        refine Rj_aload_n (q := 54) d_Sp_nextSign_53 rfl rfl rfl ?_
        refine Rj_gi (q := 57) (ki := 2) (v := k) gD_Sp_25_2 rfl rfl hk d_Sp_nextSign_54 rfl ?_
        refine Rj_ia (q := 58) (v := μ 1 k) aD_1 rfl (by omega) rfl d_Sp_nextSign_57 rfl ?_
        refine Rj_goto (t := 62) d_Sp_nextSign_58 (by decide) ?_
        refine Rj_iret d_Sp_nextSign_62 rfl ?_
        exact hQ
    · have ha := hT.at h0.1 c8
      refine Rj_aload_n (q := 12) d_Sp_nextSign_11 rfl rfl rfl ?_
      refine Rj_gr (q := 15) (zd := 1) gD_Sp_9_2 rfl rfl d_Sp_nextSign_12 rfl ?_
      refine Rj_aload_n (q := 16) d_Sp_nextSign_15 rfl rfl rfl ?_
      refine Rj_gi (q := 19) (ki := 2) (v := k) gD_Sp_25_2 rfl rfl hk d_Sp_nextSign_16 rfl ?_
      refine Rj_ia (q := 20) (v := μ 1 k) aD_1 rfl (by omega) rfl d_Sp_nextSign_19 rfl ?_
      refine Rj_bipush (q := 22) d_Sp_nextSign_20 rfl (by decide +kernel) ?_
      refine Rj_icmp_ne (q := 25) (t := 38) d_Sp_nextSign_22 rfl (by decide) (by first | exact ⟨by omega, by omega⟩ | (constructor <;> omega)) (by decide) (fun c22 => ?_) (fun c22 => ?_)
      · have e1 : sk A n k = k := rn_stop (fun h => by have := of_decide_eq_true h.2; omega)
        rw [e1, ← hk, mset_id] at hQ
        rw [hk] at hQ
        unfold nsV at hQ
        refine Rj_aload_n (q := 39) d_Sp_nextSign_38 rfl rfl rfl ?_
        refine Rj_gi (q := 42) (ki := 2) (v := k) gD_Sp_25_2 rfl rfl hk d_Sp_nextSign_39 rfl ?_
        refine Rj_aload_n (q := 43) d_Sp_nextSign_42 rfl rfl rfl ?_
        refine Rj_gi (q := 46) (ki := 1) (v := n) gD_Sp_21_2 rfl rfl hn d_Sp_nextSign_43 rfl ?_
        refine Rj_icmp_ge (q := 49) (t := 61) d_Sp_nextSign_46 rfl (by decide) (by first | exact ⟨by omega, by omega⟩ | (constructor <;> omega)) (by first | exact ⟨by omega, by omega⟩ | (constructor <;> omega)) (fun c46 => ?_) (fun c46 => ?_)
        · rw [if_neg (by omega)] at hQ
          refine Rj_iconst (q := 62) d_Sp_nextSign_61 rfl ?_
          refine Rj_iret d_Sp_nextSign_62 rfl ?_
          exact hQ
        · rw [if_pos (by omega)] at hQ
          refine Rj_aload_n (q := 50) d_Sp_nextSign_49 rfl rfl rfl ?_
          refine Rj_gr (q := 53) (zd := 1) gD_Sp_9_2 rfl rfl d_Sp_nextSign_50 rfl ?_
          refine Rj_aload_n (q := 54) d_Sp_nextSign_53 rfl rfl rfl ?_
          refine Rj_gi (q := 57) (ki := 2) (v := k) gD_Sp_25_2 rfl rfl hk d_Sp_nextSign_54 rfl ?_
          refine Rj_ia (q := 58) (v := μ 1 k) aD_1 rfl (by omega) rfl d_Sp_nextSign_57 rfl ?_
          refine Rj_goto (t := 62) d_Sp_nextSign_58 (by decide) ?_
          refine Rj_iret d_Sp_nextSign_62 rfl ?_
          exact hQ
      · refine Rj_aload_n (q := 26) d_Sp_nextSign_25 rfl rfl rfl ?_
        refine Rj_dup (q := 27) d_Sp_nextSign_26 rfl (by intro h; cases h) ?_
        refine Rj_gi (q := 30) (ki := 2) (v := k) gD_Sp_25_2 rfl rfl hk d_Sp_nextSign_27 rfl ?_
        refine Rj_iconst (q := 31) d_Sp_nextSign_30 rfl ?_
        refine Rj_iadd (q := 32) d_Sp_nextSign_31 rfl ?_
        refine Rj_pi (q := 35) (ki := 2) pD_Sp_25_2 rfl rfl d_Sp_nextSign_32 rfl ?_
        refine Rj_goto (t := 0) d_Sp_nextSign_35 (by decide) ?_
        have e1 : sk A n k = sk A n (k + 1) := rn_step c8 (decide_eq_true (by omega))
        rw [e1] at hQ
        exact ih (μ := mset μ 2 2 (k + 1)) (A := A) (n := n) (k := k + 1) (by omega) (hT.keep rfl rfl) (mset_same _ _ _ _) (by omega) (by rw [mset_mset]; exact hQ)
theorem s_next {μ : Mem} {Q : PV → Mem → Prop} {A : Int → Int} {n k : Int} (hT : TD μ A n) (hk : μ 2 2 = k) (h0 : 0 ≤ k ∧ k ≤ n) (hQ : Q (vI (nsV μ n (sk A n k))) (mset μ 2 2 (sk A n k))) : Rj YD y_Sp_nextSign 0 [vA 2] [] μ Q := s_next_f _ (Nat.lt_succ_self _) hT hk h0 hQ
set_option maxHeartbeats 4000000 in
theorem s_byteAt {μ : Mem} {Q : PV → Mem → Prop} {A : Int → Int} {n i : Int} (hT : TD μ A n) (h0 : 0 ≤ i ∧ i ≤ 100000) (hQ : Q (vI (nsV μ n i)) μ) : Rj YD y_Sp_byteAt 0 [vA 2, vI i] [] μ Q := by
  have hn := hT.2.1
  have hX := hT.1.1
  unfold nsV at hQ
  refine Rj_iload_n (q := 1) d_Sp_byteAt_0 rfl rfl rfl ?_
  refine Rj_if_lt (q := 4) (t := 21) d_Sp_byteAt_1 rfl (by decide) ⟨by omega, by omega⟩ (fun c1 => ?_) (fun c1 => ?_)
  · refine Rj_iconst (q := 22) d_Sp_byteAt_21 rfl ?_
    refine Rj_iret d_Sp_byteAt_22 rfl ?_
    first | exact hQ | (exfalso; omega)
  · refine Rj_iload_n (q := 5) d_Sp_byteAt_4 rfl rfl rfl ?_
    refine Rj_aload_n (q := 6) d_Sp_byteAt_5 rfl rfl rfl ?_
    refine Rj_gi (q := 9) (ki := 1) (v := n) gD_Sp_21_2 rfl rfl hn d_Sp_byteAt_6 rfl ?_
    refine Rj_icmp_ge (q := 12) (t := 21) d_Sp_byteAt_9 rfl (by decide) ⟨by omega, by omega⟩ ⟨by omega, by omega⟩ (fun c9 => ?_) (fun c9 => ?_)
    · rw [if_neg (by omega)] at hQ
      refine Rj_iconst (q := 22) d_Sp_byteAt_21 rfl ?_
      refine Rj_iret d_Sp_byteAt_22 rfl ?_
      first | exact hQ | (exfalso; omega)
    · rw [if_pos (by omega)] at hQ
      refine Rj_aload_n (q := 13) d_Sp_byteAt_12 rfl rfl rfl ?_
      refine Rj_gr (q := 16) (zd := 1) gD_Sp_9_2 rfl rfl d_Sp_byteAt_13 rfl ?_
      refine Rj_iload_n (q := 17) d_Sp_byteAt_16 rfl rfl rfl ?_
      refine Rj_ia (q := 18) (v := μ 1 i) aD_1 rfl (by omega) rfl d_Sp_byteAt_17 rfl ?_
      refine Rj_goto (t := 22) d_Sp_byteAt_18 (by decide) ?_
      refine Rj_iret d_Sp_byteAt_22 rfl ?_
      first | exact hQ | (exfalso; omega)
def sLs (w : Nat) : List Int := (sByt.getD w []).map (fun x => x.toInt)
def wN (w : Nat) : Int := wnum (sLs w)
theorem sLs_ok : ∀ w, w < 17 → ((sLs w).length = sLen.getD w 0 ∧ sLs w ≠ [] ∧ (sLs w).length < 8 ∧ (∀ x ∈ sLs w, 97 ≤ x ∧ x ≤ 122) ∧ (∀ i, i < sLen.getD w 0 → 97 ≤ (sByt.getD w []).getD i 0 ∧ (sByt.getD w []).getD i 0 ≤ 122)) := by decide +kernel
theorem sCh_get {w : Nat} (i : Nat) (h : i < (sLs w).length) : (sLs w).getD i 0 = sCh w (i : Int) := by
  unfold sLs at h ⊢
  unfold sCh
  rw [List.length_map] at h
  generalize sByt.getD w [] = L at *
  rw [List.getD_eq_getElem?_getD, List.getElem?_map, List.getD_eq_getElem?_getD, Int.toNat_natCast, List.getElem?_eq_getElem h]
  rfl
def WAT (A : Int → Int) (n k : Int) (w : Nat) : Prop := (∀ j, 0 ≤ j → j < sLn w → k + j < n ∧ A (k + j) = sCh w j) ∧ ¬ (k + sLn w < n ∧ isLt A (k + sLn w) = true)
theorem sLn_len {w : Nat} (hw : w < 17) : sLn w = ((sLs w).length : Int) := by unfold sLn; rw [(sLs_ok w hw).1]
theorem WAT_L {A : Int → Int} {n k : Int} {w : Nat} (hw : w < 17) : WAT A n k w ↔ watL A n k (sLs w) := by
  have hl := sLn_len hw
  unfold WAT watL
  rw [hl]
  constructor
  · rintro ⟨h1, h2⟩
    refine ⟨fun i hi => ?_, h2⟩
    have := h1 (i : Int) (by omega) (by omega)
    rw [sCh_get i hi]
    exact this
  · rintro ⟨h1, h2⟩
    refine ⟨fun j j0 j1 => ?_, h2⟩
    have := h1 j.toNat (by omega)
    rw [sCh_get j.toNat (by omega), show ((j.toNat : Nat) : Int) = j by omega] at this
    exact this
theorem WAT_iff {A : Int → Int} {n k : Int} {w : Nat} (hw : w < 17) : wat A n k (wN w) = true ↔ WAT A n k w := by
  obtain ⟨h1, h2, h3, h4, -⟩ := sLs_ok w hw
  exact (wat_iff h2 h3 h4).trans (WAT_L hw).symm
theorem sCh_rng {w : Nat} (hw : w < 17) {i : Int} (h0 : 0 ≤ i) (h1 : i < sLn w) : 97 ≤ sCh w i ∧ sCh w i ≤ 122 := by
  obtain ⟨l1, l2, l3, l4, l5⟩ := sLs_ok w hw
  have hl := sLn_len hw
  have e := sCh_get (w := w) i.toNat (by omega)
  rw [show ((i.toNat : Nat) : Int) = i by omega] at e
  rw [← e]
  have hm : (sLs w).getD i.toNat 0 ∈ sLs w := by
    rw [List.getD_eq_getElem?_getD, List.getElem?_eq_getElem (show i.toNat < (sLs w).length by omega)]
    exact List.getElem_mem _
  exact l4 _ hm
theorem WAT_end {A : Int → Int} {n k : Int} {w : Nat} (hw : w < 17) (h : WAT A n k w) : lend A n k = k + sLn w := by
  have hr := sLn_rng w
  refine rn_uniq (by omega) (fun j j0 j1 => ?_) h.2
  have := h.1 (j - k) (by omega) (by omega)
  rw [show k + (j - k) = j by omega] at this
  have hc := sCh_rng hw (i := j - k) (by omega) (by omega)
  refine ⟨this.1, decide_eq_true ?_⟩
  rw [this.2]
  exact hc
set_option maxHeartbeats 4000000 in
theorem s_isAtWord_l : ∀ (f : Nat) {μ : Mem} {Q : PV → Mem → Prop} {A : Int → Int} {n k : Int} {z i : Int} {w : Nat}, ((sLn w - i).toNat < f) → (TD μ A n) → (μ 2 2 = k) → (0 ≤ k ∧ k ≤ n) → (z.toNat = w) → (w < 17) → (0 ≤ i ∧ i ≤ sLn w) → (∀ j, 0 ≤ j → j < i → k + j < n ∧ A (k + j) = sCh w j) → (Q (vI (bI (wat A n k (wN w)))) μ) → Rj YD y_Sp_isAtWord 7 [vA 2, vK z, vI i] [] μ Q := by
  intro f
  induction f with
  | zero => intro μ Q A n k z i w hf hT hk h0 hz hw hi hb hQ; exact absurd hf (by omega)
  | succ f ih =>
    intro μ Q A n k z i w hf hT hk h0 hz hw hi hb hQ
    have hn := hT.2.1
    have hX := hT.1.1
    have hr := sLn_rng w
    have hWi := WAT_iff (A := A) (n := n) (k := k) hw
    refine Rj_iload_n (q := 8) d_Sp_isAtWord_7 rfl rfl rfl ?_
    refine Rj_kload_n (q := 9) d_Sp_isAtWord_8 rfl rfl rfl ?_
    refine Rj_ck (q := 12) (z := y_Jstr_length) (as := []) (rest := [vI i]) (la := [vK z]) ml_Sp_35 mw_Jstr_length mv_Jstr_length rfl hz hw d_Sp_isAtWord_9 rfl rfl rfl rfl rfl ?_
    refine s_J_length hz hw ?_
    refine Rj_icmp_ge (q := 15) (t := 41) d_Sp_isAtWord_12 rfl (by decide) (by first | exact ⟨by omega, by omega⟩ | (constructor <;> omega)) (by first | exact ⟨by omega, by omega⟩ | (constructor <;> omega)) (fun c12 => ?_) (fun c12 => ?_)
    · have ei : i = sLn w := by omega
      have hb2 : ∀ j, 0 ≤ j → j < sLn w → k + j < n ∧ A (k + j) = sCh w j := fun j j0 j1 => hb j j0 (by omega)
      refine Rj_aload_n (q := 42) d_Sp_isAtWord_41 rfl rfl rfl ?_
      refine Rj_aload_n (q := 43) d_Sp_isAtWord_42 rfl rfl rfl ?_
      refine Rj_gi (q := 46) (ki := 2) (v := k) gD_Sp_25_2 rfl rfl hk d_Sp_isAtWord_43 rfl ?_
      refine Rj_kload_n (q := 47) d_Sp_isAtWord_46 rfl rfl rfl ?_
      refine Rj_ck (q := 50) (z := y_Jstr_length) (as := []) (rest := [vI k, vA 2]) (la := [vK z]) ml_Sp_35 mw_Jstr_length mv_Jstr_length rfl hz hw d_Sp_isAtWord_47 rfl rfl rfl rfl rfl ?_
      refine s_J_length hz hw ?_
      refine Rj_iadd (q := 51) d_Sp_isAtWord_50 rfl ?_
      refine Rj_vo (q := 54) (z := y_Sp_byteAt) (as := [vI (k + (sLn w))]) (rest := []) (la := [vA 2, vI (k + (sLn w))]) oD_2_Sp_byteAt ml_Sp_39 mw_Sp_byteAt mv_Sp_byteAt rfl d_Sp_isAtWord_51 rfl rfl rfl rfl rfl ?_
      refine s_byteAt (A := A) (n := n) hT (by omega) ?_
      have bv51 := nsV_rng hT (k := k + (sLn w)) (by omega)
      refine Rj_istore_n (q := 55) (ls' := [vA 2, vK z, vI (nsV μ n (k + (sLn w)))]) d_Sp_isAtWord_54 rfl rfl (by decide) rfl ?_
      refine Rj_iload_n (q := 56) d_Sp_isAtWord_55 rfl rfl rfl ?_
      refine Rj_bipush (q := 58) d_Sp_isAtWord_56 rfl (by decide +kernel) ?_
      refine Rj_icmp_lt (q := 61) (t := 67) d_Sp_isAtWord_58 rfl (by decide) (by first | exact ⟨by omega, by omega⟩ | (constructor <;> omega)) (by decide) (fun c58 => ?_) (fun c58 => ?_)
      · refine Rj_iconst (q := 68) d_Sp_isAtWord_67 rfl ?_
        refine Rj_goto (t := 72) d_Sp_isAtWord_68 (by decide) ?_
        refine Rj_bret1 d_Sp_isAtWord_72 rfl ?_
        refine fin_I hQ (bI_t (hWi.mpr ⟨hb2, fun h => ?_⟩))
        have q := of_decide_eq_true h.2
        have := (bv51.2.2 97 122 (by decide) (by decide)).mpr ⟨h.1, q.1, q.2⟩
        omega
      · refine Rj_iload_n (q := 62) d_Sp_isAtWord_61 rfl rfl rfl ?_
        refine Rj_bipush (q := 64) d_Sp_isAtWord_62 rfl (by decide +kernel) ?_
        refine Rj_icmp_le (q := 67) (t := 71) d_Sp_isAtWord_64 rfl (by decide) (by first | exact ⟨by omega, by omega⟩ | (constructor <;> omega)) (by decide) (fun c64 => ?_) (fun c64 => ?_)
        · refine Rj_iconst (q := 72) d_Sp_isAtWord_71 rfl ?_
          refine Rj_bret0 d_Sp_isAtWord_72 rfl ?_
          refine fin_I hQ (bI_f ?_)
          rw [← Bool.not_eq_true, hWi]
          first
          | exact fun h => h30 (h.1 i (by omega) (by omega))
          | exact fun h => h.2 (by have := (bv51.2.2 97 122 (by decide) (by decide)).mp (by omega); exact ⟨this.1, decide_eq_true this.2⟩)
        · refine Rj_iconst (q := 68) d_Sp_isAtWord_67 rfl ?_
          refine Rj_goto (t := 72) d_Sp_isAtWord_68 (by decide) ?_
          refine Rj_bret1 d_Sp_isAtWord_72 rfl ?_
          refine fin_I hQ (bI_t (hWi.mpr ⟨hb2, fun h => ?_⟩))
          have q := of_decide_eq_true h.2
          have := (bv51.2.2 97 122 (by decide) (by decide)).mpr ⟨h.1, q.1, q.2⟩
          omega
    · refine Rj_aload_n (q := 16) d_Sp_isAtWord_15 rfl rfl rfl ?_
      refine Rj_aload_n (q := 17) d_Sp_isAtWord_16 rfl rfl rfl ?_
      refine Rj_gi (q := 20) (ki := 2) (v := k) gD_Sp_25_2 rfl rfl hk d_Sp_isAtWord_17 rfl ?_
      refine Rj_iload_n (q := 21) d_Sp_isAtWord_20 rfl rfl rfl ?_
      refine Rj_iadd (q := 22) d_Sp_isAtWord_21 rfl ?_
      refine Rj_vo (q := 25) (z := y_Sp_byteAt) (as := [vI (k + i)]) (rest := []) (la := [vA 2, vI (k + i)]) oD_2_Sp_byteAt ml_Sp_39 mw_Sp_byteAt mv_Sp_byteAt rfl d_Sp_isAtWord_22 rfl rfl rfl rfl rfl ?_
      refine s_byteAt (A := A) (n := n) hT (by omega) ?_
      have bv22 := nsV_rng hT (k := k + i) (by omega)
      refine Rj_kload_n (q := 26) d_Sp_isAtWord_25 rfl rfl rfl ?_
      refine Rj_iload_n (q := 27) d_Sp_isAtWord_26 rfl rfl rfl ?_
      refine Rj_ck (q := 30) (z := y_Jstr_charAt) (as := [vI i]) (rest := [vI (nsV μ n (k + i))]) (la := [vK z, vI i]) ml_Sp_43 mw_Jstr_charAt mv_Jstr_charAt rfl hz hw d_Sp_isAtWord_27 rfl rfl rfl rfl rfl ?_
      have hch := sCh_rng hw (i := i) (by omega) (by omega)
      refine s_J_charAt hz hw ⟨by omega, by omega⟩ ⟨by omega, by omega⟩ ?_
      refine Rj_icmp_eq (q := 33) (t := 35) d_Sp_isAtWord_30 rfl (by decide) (by first | exact ⟨by omega, by omega⟩ | (constructor <;> omega)) (by first | exact ⟨by omega, by omega⟩ | (constructor <;> omega)) (fun c30 => ?_) (fun c30 => ?_)
      · have h30 := (nsV_eq hT (k := k + i) (c := sCh w i) (by omega) (by omega)).mp c30
        refine Rj_iinc (q := 38) (ls' := [vA 2, vK z, vI (i + 1)]) d_Sp_isAtWord_35 rfl rfl (by decide) rfl ?_
        refine Rj_goto (t := 7) d_Sp_isAtWord_38 (by decide) ?_
        exact ih (by omega) hT hk h0 hz hw (by omega) (fun j j0 j1 => by
          by_cases e : j = i
          · rw [e]; exact h30
          · exact hb j j0 (by omega)) hQ
      · have h30 : ¬ (k + i < n ∧ A (k + i) = sCh w i) := fun h => c30 ((nsV_eq hT (by omega) (by omega)).mpr h)
        refine Rj_iconst (q := 34) d_Sp_isAtWord_33 rfl ?_
        refine Rj_bret0 d_Sp_isAtWord_34 rfl ?_
        refine fin_I hQ (bI_f ?_)
        rw [← Bool.not_eq_true, hWi]
        first
        | exact fun h => h30 (h.1 i (by omega) (by omega))
        | exact fun h => h.2 (by have := (bv51.2.2 97 122 (by decide) (by decide)).mp (by omega); exact ⟨this.1, decide_eq_true this.2⟩)
set_option maxHeartbeats 4000000 in
theorem s_isAtWord {μ : Mem} {Q : PV → Mem → Prop} {A : Int → Int} {n k : Int} (hT : TD μ A n) (hk : μ 2 2 = k) (h0 : 0 ≤ k ∧ k ≤ n) {w : Nat} {z : Int} (hz : z.toNat = w) (hw : w < 17) (hQ : Q (vI (bI (wat A n (sk A n k) (wN w)))) (mset μ 2 2 (sk A n k))) : Rj YD y_Sp_isAtWord 0 [vA 2, vK z] [] μ Q := by
  have hn := hT.2.1
  have hX := hT.1.1
  refine Rj_aload_n (q := 1) d_Sp_isAtWord_0 rfl rfl rfl ?_
  refine Rj_vo (q := 4) (z := y_Sp_nextSign) (as := []) (rest := []) (la := [vA 2]) oD_2_Sp_nextSign ml_Sp_31 mw_Sp_nextSign mv_Sp_nextSign rfl d_Sp_isAtWord_1 rfl rfl rfl rfl rfl ?_
  refine s_next (μ := μ) (A := A) (n := n) (k := k) (hT.keep rfl rfl) hk (by omega) ?_
  have r1 := sk_bd A (n := n) (k := k) (by omega)
  have v1 := nsV_rng hT (k := sk A n k) (by omega)
  refine Rj_pop (q := 5) d_Sp_isAtWord_4 rfl (by intro h; cases h) ?_
  refine Rj_iconst (q := 6) d_Sp_isAtWord_5 rfl ?_
  refine Rj_istore_n (q := 7) (ls' := [vA 2, vK z, vI 0]) d_Sp_isAtWord_6 rfl rfl (by decide) rfl ?_
  have hr := sLn_rng w
  exact s_isAtWord_l _ (Nat.lt_succ_self _) (hT.keep rfl rfl) (mset_same _ _ _ _) (by omega) hz hw (by omega) (fun j j0 j1 => by omega) hQ
