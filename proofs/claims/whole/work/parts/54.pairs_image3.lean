/-! the pairs image, back -/
set_option maxHeartbeats 4000000 in
theorem s_image_no {μ : Mem} {Q : PV → Mem → Prop} {a : Int} (ha : i32 a) (hn : ¬ (0 ≤ a ∧ a ≤ 3)) (hQ : Q (vI (-1)) μ) : Rj YD y_D_image 0 [vA 0, vI a] [] μ Q := by
  refine Rj_iload_n (q := 1) d_D_image_0 rfl rfl rfl ?_
  refine Rj_if_lt (q := 4) (t := 9) d_D_image_1 rfl (by decide) (by first | assumption | exact ⟨by omega, by omega⟩) (fun c1 => ?_) (fun c1 => ?_)
  · refine Rj_iconst (q := 10) d_D_image_9 rfl ?_
    refine Rj_iret d_D_image_10 rfl ?_
    exact hQ
  · refine Rj_iload_n (q := 5) d_D_image_4 rfl rfl rfl ?_
    refine Rj_iconst (q := 6) d_D_image_5 rfl ?_
    refine Rj_icmp_lt (q := 9) (t := 11) d_D_image_6 rfl (by decide) (by first | assumption | exact ⟨by omega, by omega⟩) (by decide) (fun c6 => ?_) (fun c6 => ?_)
    · exact absurd (show 0 ≤ a ∧ a ≤ 3 by omega) hn
    · refine Rj_iconst (q := 10) d_D_image_9 rfl ?_
      refine Rj_iret d_D_image_10 rfl ?_
      exact hQ
set_option maxHeartbeats 4000000 in
theorem s_back_no {μ : Mem} {Q : PV → Mem → Prop} {a : Int} (ha : i32 a) (hn : ¬ (0 ≤ a ∧ a ≤ 3) ∨ μ 58 a = 0) (hQ : Q (vI (-1)) μ) : Rj YD y_D_back 0 [vA 0, vI a] [] μ Q := by
  refine Rj_iload_n (q := 1) d_D_back_0 rfl rfl rfl ?_
  refine Rj_if_lt (q := 4) (t := 18) d_D_back_1 rfl (by decide) (by first | assumption | exact ⟨by omega, by omega⟩) (fun c1 => ?_) (fun c1 => ?_)
  · refine Rj_iconst (q := 19) d_D_back_18 rfl ?_
    refine Rj_iret d_D_back_19 rfl ?_
    exact hQ
  · refine Rj_iload_n (q := 5) d_D_back_4 rfl rfl rfl ?_
    refine Rj_iconst (q := 6) d_D_back_5 rfl ?_
    refine Rj_icmp_ge (q := 9) (t := 18) d_D_back_6 rfl (by decide) (by first | assumption | exact ⟨by omega, by omega⟩) (by decide) (fun c6 => ?_) (fun c6 => ?_)
    · refine Rj_iconst (q := 19) d_D_back_18 rfl ?_
      refine Rj_iret d_D_back_19 rfl ?_
      exact hQ
    · have h58 : μ 58 a = 0 := by omega
      refine Rj_aload_n (q := 10) d_D_back_9 rfl rfl rfl ?_
      refine Rj_gr (q := 13) (zd := 58) gD_D_36_0 rfl rfl d_D_back_10 rfl ?_
      refine Rj_iload_n (q := 14) d_D_back_13 rfl rfl rfl ?_
      refine Rj_za (q := 15) (v := μ 58 a) aD_58 rfl (by omega) rfl d_D_back_14 rfl ?_
      refine Rj_if_ne (q := 18) (t := 20) d_D_back_15 rfl (by decide) (by first | assumption | exact ⟨by omega, by omega⟩) (fun c15 => ?_) (fun c15 => ?_)
      · exact absurd h58 c15
      · refine Rj_iconst (q := 19) d_D_back_18 rfl ?_
        refine Rj_iret d_D_back_19 rfl ?_
        exact hQ
theorem CPY.same {μ μ' : Mem} {b : Nat} (h : ∀ c i, b ≤ c → c ≤ b + 8 → μ' c i = μ c i) : CPY μ μ' b b :=
  ⟨⟨h b 0 (by omega) (by omega), h b 3 (by omega) (by omega), h b 4 (by omega) (by omega), h b 10 (by omega) (by omega), h b 11 (by omega) (by omega), h b 12 (by omega) (by omega), h b 14 (by omega) (by omega), h b 16 (by omega) (by omega)⟩,
   fun i _ _ => ⟨h (b + 1) i (by omega) (by omega), h (b + 2) i (by omega) (by omega), h (b + 6) i (by omega) (by omega), h (b + 7) i (by omega) (by omega)⟩, fun i _ _ => ⟨h (b + 3) i (by omega) (by omega), h (b + 4) i (by omega) (by omega), h (b + 5) i (by omega) (by omega)⟩, fun i _ _ => h (b + 8) i (by omega) (by omega)⟩
theorem img_out {n k : Nat} {μ ν μ' ν' : Mem} (hk : k < 4) (hC : Cor n μ ν) (f : Fr (fun c i => (22 + 9 * k ≤ c ∧ c ≤ 22 + 9 * k + 8) ∨ (c = 58 ∧ i = (k : Int))) μ μ') (hc : CPY μ μ' (22 + 9 * k) 3) (e58 : μ' 58 (k : Int) = 1) (g : Fr (Wim (k : Int)) ν ν') (e26 : ν' 26 (k : Int) = 1) (e24 : ∀ j, 0 ≤ j → j < 134 → ν' 24 (134 * (k : Int) + j) = ν 11 j) (e25 : ∀ d, 0 ≤ d → d < 12 → ν' 25 (12 * (k : Int) + d) = ν 12 d) : Cor (n + 1) μ' ν' ∧ Kp μ μ' ∧ Kq ν ν' := by
  obtain ⟨hTP, hK, hSc, hG, hM, hSB, hBK, hIM⟩ := hC.next
  have r : ∀ c, (c < 24 ∨ 26 < c) → ν' c = ν c := fun c h => g.row (fun i q => by unfold Wim at q; omega)
  refine ⟨⟨hTP.keep (f 0 1 (by omega)) (f.row (fun i => by omega)) (by rw [r 0 (by omega)]) (r 1 (by omega)), by rw [r 11 (by omega)]; exact hK, by rw [r 11 (by omega)]; exact hSc.keep (fun c i q1 q2 => f c i (by omega)), ?_, ?_, by rw [r 11 (by omega), r 12 (by omega)]; exact hSB, by rw [r 12 (by omega)]; exact hBK, ?_⟩, fun c i q => f c i (by omega), fun c i q => g c i (by unfold Wim; omega)⟩
  · rw [r 11 (by omega), r 12 (by omega), r 14 (by omega), r 15 (by omega), r 16 (by omega), r 17 (by omega)]
    exact hG.keep (fun c i q => f c i (by unfold gxc at q; omega))
  · unfold MX
    rw [r 11 (by omega), r 12 (by omega), r 14 (by omega), r 15 (by omega), r 16 (by omega), r 17 (by omega), r 0 (by omega)]
    exact hM
  · intro j hj
    by_cases e : j = k
    · subst e
      refine ⟨Or.inr e26, by rw [e58, e26], fun _ => ?_⟩
      have ag : AGA (ν 11) (imS ν' j) := fun i i0 i1 => e24 i i0 i1
      refine ⟨hK.c ag, SCN.c ag hK hSc hc, SPT.c hG.1 ag.ag (fun d d0 d1 => e25 d d0 d1) hc ⟨_, _, _, _, hG.2.2.1, hG.2.2.2.2.1⟩, SB.c hG.1 ag.ag (fun d d0 d1 => e25 d d0 d1) hSB, fun d d0 d1 => ?_⟩
      have := e25 d d0 d1
      show _ ≤ ν' 25 (12 * (j : Int) + d) ∧ ν' 25 (12 * (j : Int) + d) ≤ _
      rw [this]
      exact hBK d d0 d1
    · obtain ⟨h1, h2, h3⟩ := hIM j hj
      have e26j : ν' 26 (j : Int) = ν 26 (j : Int) := g 26 (j : Int) (by unfold Wim; omega)
      rw [e26j, f 58 (j : Int) (by omega)]
      refine ⟨h1, h2, fun q => ?_⟩
      obtain ⟨c1, c2, c3, c4, c5⟩ := h3 q
      have ag : AGA (imS ν j) (imS ν' j) := fun i i0 i1 => g 24 (134 * (j : Int) + i) (by unfold Wim; omega)
      have ep : ∀ d, 0 ≤ d → d < 12 → imP ν' j d = imP ν j d := fun d d0 d1 => g 25 (12 * (j : Int) + d) (by unfold Wim; omega)
      have cp : CPY μ μ' (22 + 9 * j) (22 + 9 * j) := CPY.same (fun c i q1 q2 => f c i (by omega))
      refine ⟨c1.c ag, SCN.c ag c1 c2 cp, SPT.c c1.1 ag.ag ep cp c3, SB.c c1.1 ag.ag ep c4, fun d d0 d1 => ?_⟩
      rw [ep d d0 d1]
      exact c5 d d0 d1
theorem C_image {n : Nat} {μ ν : Mem} {a : Int} (hC : Cor n μ ν) (ha : i32 a) : Rj YD y_D_image 0 [vA 0, vI a] [] μ (fun r μ' => Rj YM y_M_image 0 [vA 0, vI a] [] ν (fun r' ν' => Sm 1 r' r ∧ Cor (n + 1) μ' ν' ∧ Kp μ μ' ∧ Kq ν ν')) := by
  have hG := hC.2.2.2.1
  have hM := hC.2.2.2.2.1
  by_cases hk : 0 ≤ a ∧ a ≤ 3
  · have e : a = 0 ∨ a = 1 ∨ a = 2 ∨ a = 3 := by omega
    rcases e with rfl | rfl | rfl | rfl
    · exact s_image_0 hG (fun μ' f c e => s_M_image ha hM (fun q => absurd hk q) (fun _ ν' g g1 g2 g3 => ⟨sm_I rfl, img_out (k := 0) (by decide) hC f c e g g1 g2 g3⟩))
    · exact s_image_1 hG (fun μ' f c e => s_M_image ha hM (fun q => absurd hk q) (fun _ ν' g g1 g2 g3 => ⟨sm_I rfl, img_out (k := 1) (by decide) hC f c e g g1 g2 g3⟩))
    · exact s_image_2 hG (fun μ' f c e => s_M_image ha hM (fun q => absurd hk q) (fun _ ν' g g1 g2 g3 => ⟨sm_I rfl, img_out (k := 2) (by decide) hC f c e g g1 g2 g3⟩))
    · exact s_image_3 hG (fun μ' f c e => s_M_image ha hM (fun q => absurd hk q) (fun _ ν' g g1 g2 g3 => ⟨sm_I rfl, img_out (k := 3) (by decide) hC f c e g g1 g2 g3⟩))
  · exact s_image_no ha hk (s_M_image ha hM (fun _ => ⟨sm_I rfl, hC.next, kp0 _, kq0 _⟩) (fun q => absurd q hk))
theorem SCN.gt {μ : Mem} {S : Int → Int} (h : SCN μ 3 S) (hK : StK S) : GT μ S := by
  obtain ⟨s1, s2, s3, s4, s5, s6, s7, s8, s9, s10, s11, s12⟩ := h
  exact ⟨⟨s1, s3, fun d d0 d1 => (s9 d d0 d1).1, s10⟩, fun d d0 d1 => (s9 d d0 d1).2, s2, hK.2.1⟩
theorem GX.pl {μ : Mem} {S lo up dn lk pl ql : Int → Int} (h : GX μ S lo up dn lk pl) (e : ∀ d, 0 ≤ d → d < 12 → ql d = pl d) : GX μ S lo up dn lk ql := by
  obtain ⟨hS, hT, hH, hF, hp, hb⟩ := h
  have h0 := hS.1
  refine ⟨hS, hT, hH, hF, fun d d0 d1 => ?_, fun d d0 d1 => ?_⟩
  · rw [e d d0 (by omega)]; exact hp d d0 d1
  · rw [e d d0 d1]; exact hb d d0 d1
/-- what was in an image is the object's own again -/
theorem back_out {n k : Nat} {μ ν μ' ν1 ν2 : Mem} {lo up dn lk : Int → Int} (hk : k < 4) (hC : Cor n μ ν) (e26 : ν 26 (k : Int) = 1) (f : Fr (fun c i => Wcp3 c i ∨ Wft c i) μ μ') (hN : SCN μ' 3 (imS ν k)) (hG : GX μ' (imS ν k) lo up dn lk (imP ν k)) (g : Fr (fun c _ => c = 11 ∨ c = 12) ν ν1) (e24 : ∀ j, 0 ≤ j → j < 134 → ν1 11 j = ν 24 (134 * (k : Int) + j)) (e25 : ∀ d, 0 ≤ d → d < 12 → ν1 12 d = ν 25 (12 * (k : Int) + d)) (g2 : Fr Whs ν1 ν2) (hM : MX ν2) : Cor (n + 1) μ' ν2 ∧ Kp μ μ' ∧ Kq ν ν2 := by
  obtain ⟨hTP, -, -, -, -, -, -, hIM⟩ := hC.next
  obtain ⟨-, -, c⟩ := hIM k hk
  obtain ⟨c1, c2, c3, c4, c5⟩ := c e26
  have r1 : ∀ c, c ≠ 11 → c ≠ 12 → ν1 c = ν c := fun c h1 h2 => g.row (fun i q => by omega)
  have r2 : ∀ c, c ≠ 0 → (c < 14 ∨ 17 < c) → ν2 c = ν1 c := fun c h1 h2 => g2.row (fun i q => by unfold Whs at q; omega)
  have ag : AGA (imS ν k) (ν2 11) := fun i i0 i1 => by rw [r2 11 (by decide) (by omega)]; exact e24 i i0 i1
  have ep : ∀ d, 0 ≤ d → d < 12 → ν2 12 d = imP ν k d := fun d d0 d1 => by rw [r2 12 (by decide) (by omega)]; exact e25 d d0 d1
  have f0 : ν2 0 1 = ν 0 1 := by rw [g2 0 1 (by unfold Whs; omega), r1 0 (by decide) (by decide)]
  refine ⟨⟨hTP.keep (f 0 1 (by unfold Wcp3 Wft; omega)) (f.row (fun i => by unfold Wcp3 Wft; omega)) f0 ((r2 1 (by decide) (by omega)).trans (r1 1 (by decide) (by decide))), c1.c ag, SCN.c ag c1 hN (CPY.same (fun c i _ _ => rfl)), ((ag.ag.gx hG).pl ep).re hM.2.1, hM, SB.c c1.1 ag.ag ep c4, fun d d0 d1 => by rw [ep d d0 d1]; exact c5 d d0 d1, ?_⟩, fun c i q => f c i (by unfold Wcp3 Wft; omega), fun c i q => ?_⟩
  · exact hIM.keep (fun c i q1 q2 => f c i (by unfold Wcp3 Wft; omega)) ((r2 24 (by decide) (by omega)).trans (r1 24 (by decide) (by decide))) ((r2 25 (by decide) (by omega)).trans (r1 25 (by decide) (by decide))) ((r2 26 (by decide) (by omega)).trans (r1 26 (by decide) (by decide)))
  · rw [g2 c i (by unfold Whs; omega), g c i (by omega)]
theorem bk_hyps {n k : Nat} {μ ν : Mem} (hk : k < 4) (hn : n ≤ 511) (hC : Cor n μ ν) (e26 : ν 26 (k : Int) = 1) : StrOK (imS ν k) ∧ (∀ μ', CPY μ μ' 3 (22 + 9 * k) → GT μ' (imS ν k)) ∧ (∀ μ', CPY μ μ' 3 (22 + 9 * k) → ∀ lo up dn lk, Hung (imS ν k) 0 lo up dn lk → ∀ d, 0 ≤ d → d < imS ν k 0 → μ' 9 d * pts (imS ν k) = imP ν k d * bel (imS ν k) lo up dn lk d) ∧ PB (imP ν k) ∧ (∀ μ', CPY μ μ' 3 (22 + 9 * k) → SCN μ' 3 (imS ν k)) ∧ μ 58 (k : Int) = 1 := by
  obtain ⟨-, h58, c⟩ := hC.2.2.2.2.2.2.2 k hk
  obtain ⟨c1, c2, ⟨lo, up, dn, lk, c3, c3b⟩, c4, c5⟩ := c e26
  have hN : ∀ μ', CPY μ μ' 3 (22 + 9 * k) → SCN μ' 3 (imS ν k) := fun μ' q => SCN.c (fun _ _ _ => rfl) c1 c2 q
  refine ⟨c1.1, fun μ' q => (hN μ' q).gt c1, fun μ' q lo' up' dn' lk' hH d d0 d1 => ?_, c5.pb (by omega), hN, by rw [h58, e26]⟩
  have h0 := c1.1.1
  rw [(q.2.1 d d0 (by omega)).2.2.1, c3b d d0 d1, bel_same c1.1 c3 hH ⟨d0, d1⟩]
theorem bk_in {n k : Nat} {μ ν ν1 : Mem} (hk : k < 4) (hn : n ≤ 511) (hC : Cor n μ ν) (e26 : ν 26 (k : Int) = 1) (e24 : ∀ j, 0 ≤ j → j < 134 → ν1 11 j = ν 24 (134 * (k : Int) + j)) (e25 : ∀ d, 0 ≤ d → d < 12 → ν1 12 d = ν 25 (12 * (k : Int) + d)) : StrOK (ν1 11) ∧ PB (ν1 12) ∧ (0 ≤ ν1 11 2 ∧ ν1 11 2 < 4096) ∧ opS (ν1 11) (pts (ν1 11)) (ν1 12) (ν1 11 0).toNat = opS (imS ν k) (pts (imS ν k)) (imP ν k) (imS ν k 0).toNat := by
  obtain ⟨-, -, c⟩ := hC.2.2.2.2.2.2.2 k hk
  obtain ⟨c1, c2, c3, c4, c5⟩ := c e26
  have ag : AGA (imS ν k) (ν1 11) := fun i i0 i1 => e24 i i0 i1
  have ep : ∀ d, 0 ≤ d → d < 12 → ν1 12 d = imP ν k d := fun d d0 d1 => e25 d d0 d1
  have k2 := c1.c ag
  have h0 := c1.1.1
  refine ⟨k2.1, fun d d0 d1 => by rw [ep d d0 d1]; exact c5.pb (by omega) d d0 d1, k2.2.1, ?_⟩
  rw [ag.ag.a0]
  exact opS_c c1.1 ag.ag ep _ (by omega)
theorem C_back {n : Nat} {μ ν : Mem} {a : Int} (hC : Cor n μ ν) (hn : n ≤ 511) (ha : i32 a) : Rj YD y_D_back 0 [vA 0, vI a] [] μ (fun r μ' => Rj YM y_M_back 0 [vA 0, vI a] [] ν (fun r' ν' => Sm 1 r' r ∧ Cor (n + 1) μ' ν' ∧ Kp μ μ' ∧ Kq ν ν')) := by
  have hIM := hC.2.2.2.2.2.2.2
  have h01 : 0 ≤ a → a ≤ 3 → ν 26 a = 0 ∨ ν 26 a = 1 := fun h0 h1 => by
    have := (hIM a.toNat (by omega)).1
    rw [show ((a.toNat : Nat) : Int) = a by omega] at this
    exact this
  by_cases hk : 0 ≤ a ∧ a ≤ 3
  · have e : a = 0 ∨ a = 1 ∨ a = 2 ∨ a = 3 := by omega
    rcases e with rfl | rfl | rfl | rfl
    · by_cases e26 : ν 26 0 = 1
      · obtain ⟨b1, b2, b3, b4, b5, b6⟩ := bk_hyps (k := 0) (by decide) hn hC e26
        refine s_back_0 b6 b1 b2 b3 b4 (fun μ' lo up dn lk f hN hG => ?_) b5
        refine s_M_back ha h01 (fun q => by omega) (fun _ _ ν1 g e24 e25 => ?_)
        obtain ⟨d1, d2, d3, d4⟩ := bk_in (k := 0) (by decide) hn hC e26 e24 e25
        refine ⟨d1, d2, d3, fun ν2 g2 hM => ⟨sm_I d4, back_out (k := 0) (by decide) hC e26 f hN hG g e24 e25 g2 hM⟩⟩
      · have e0 : ν 26 0 = 0 := (h01 (by decide) (by decide)).resolve_right e26
        exact s_back_no ha (Or.inr ((hC.2.2.2.2.2.2.2 0 (by decide)).2.1.trans e0)) (s_M_back ha h01 (fun _ => ⟨sm_I rfl, hC.next, kp0 _, kq0 _⟩) (fun _ q => absurd q e26))
    · by_cases e26 : ν 26 1 = 1
      · obtain ⟨b1, b2, b3, b4, b5, b6⟩ := bk_hyps (k := 1) (by decide) hn hC e26
        refine s_back_1 b6 b1 b2 b3 b4 (fun μ' lo up dn lk f hN hG => ?_) b5
        refine s_M_back ha h01 (fun q => by omega) (fun _ _ ν1 g e24 e25 => ?_)
        obtain ⟨d1, d2, d3, d4⟩ := bk_in (k := 1) (by decide) hn hC e26 e24 e25
        refine ⟨d1, d2, d3, fun ν2 g2 hM => ⟨sm_I d4, back_out (k := 1) (by decide) hC e26 f hN hG g e24 e25 g2 hM⟩⟩
      · have e0 : ν 26 1 = 0 := (h01 (by decide) (by decide)).resolve_right e26
        exact s_back_no ha (Or.inr ((hC.2.2.2.2.2.2.2 1 (by decide)).2.1.trans e0)) (s_M_back ha h01 (fun _ => ⟨sm_I rfl, hC.next, kp0 _, kq0 _⟩) (fun _ q => absurd q e26))
    · by_cases e26 : ν 26 2 = 1
      · obtain ⟨b1, b2, b3, b4, b5, b6⟩ := bk_hyps (k := 2) (by decide) hn hC e26
        refine s_back_2 b6 b1 b2 b3 b4 (fun μ' lo up dn lk f hN hG => ?_) b5
        refine s_M_back ha h01 (fun q => by omega) (fun _ _ ν1 g e24 e25 => ?_)
        obtain ⟨d1, d2, d3, d4⟩ := bk_in (k := 2) (by decide) hn hC e26 e24 e25
        refine ⟨d1, d2, d3, fun ν2 g2 hM => ⟨sm_I d4, back_out (k := 2) (by decide) hC e26 f hN hG g e24 e25 g2 hM⟩⟩
      · have e0 : ν 26 2 = 0 := (h01 (by decide) (by decide)).resolve_right e26
        exact s_back_no ha (Or.inr ((hC.2.2.2.2.2.2.2 2 (by decide)).2.1.trans e0)) (s_M_back ha h01 (fun _ => ⟨sm_I rfl, hC.next, kp0 _, kq0 _⟩) (fun _ q => absurd q e26))
    · by_cases e26 : ν 26 3 = 1
      · obtain ⟨b1, b2, b3, b4, b5, b6⟩ := bk_hyps (k := 3) (by decide) hn hC e26
        refine s_back_3 b6 b1 b2 b3 b4 (fun μ' lo up dn lk f hN hG => ?_) b5
        refine s_M_back ha h01 (fun q => by omega) (fun _ _ ν1 g e24 e25 => ?_)
        obtain ⟨d1, d2, d3, d4⟩ := bk_in (k := 3) (by decide) hn hC e26 e24 e25
        refine ⟨d1, d2, d3, fun ν2 g2 hM => ⟨sm_I d4, back_out (k := 3) (by decide) hC e26 f hN hG g e24 e25 g2 hM⟩⟩
      · have e0 : ν 26 3 = 0 := (h01 (by decide) (by decide)).resolve_right e26
        exact s_back_no ha (Or.inr ((hC.2.2.2.2.2.2.2 3 (by decide)).2.1.trans e0)) (s_M_back ha h01 (fun _ => ⟨sm_I rfl, hC.next, kp0 _, kq0 _⟩) (fun _ q => absurd q e26))
  · exact s_back_no ha (Or.inl hk) (s_M_back ha h01 (fun _ => ⟨sm_I rfl, hC.next, kp0 _, kq0 _⟩) (fun q => absurd q hk))
