/-! what holds of the two objects between calls (all but the rules) -/
def BK (n : Nat) (pl : Int → Int) : Prop := ∀ d, 0 ≤ d → d < 12 → -((n : Int) * 112000000000000) ≤ pl d ∧ pl d ≤ (n : Int) * 112000000000000
def SB (S pl : Int → Int) : Prop := ∀ d, 0 ≤ d → d < S 0 → 0 < spn S d → 0 ≤ pl d ∧ pl d ≤ spn S d * pts S
def StK (S : Int → Int) : Prop := StrOK S ∧ (0 ≤ S 2 ∧ S 2 < 4096) ∧ (0 ≤ S 3 ∧ S 3 < 2 ^ (S 0).toNat) ∧ (0 ≤ S 4 ∧ S 4 < 2 ^ (S 0).toNat) ∧ (0 ≤ S 5 ∧ S 5 ≤ 40) ∧ (∀ i, 0 ≤ i → i < S 5 → 0 ≤ S (94 + i) ∧ S (94 + i) < S 0) ∧ (0 ≤ S 6 ∧ S 6 < 4096) ∧ (∀ d, 0 ≤ d → d < S 0 → zbit (S 6) d = 1 → -9999 ≤ S (82 + d) ∧ S (82 + d) ≤ 9999) ∧ (0 ≤ S 8 ∧ S 8 ≤ 2147483647)
def SCN (μ : Mem) (b : Nat) (S : Int → Int) : Prop := μ b 0 = S 0 ∧ μ b 3 = S 2 ∧ μ b 4 = S 1 ∧ μ b 10 = S 3 ∧ μ b 11 = S 4 ∧ μ b 14 = S 5 ∧ μ b 12 = S 6 ∧ μ b 16 = S 8 ∧
  (∀ d, 0 ≤ d → d < S 0 → μ (b + 1) d = tee S d ∧ μ (b + 2) d = spn S d) ∧ (∀ j, 0 ≤ j → j < S 1 → μ (b + 3) j = jn S j 0 ∧ μ (b + 4) j = jn S j 1 ∧ μ (b + 5) j = jn S j 2) ∧
  (∀ d, 0 ≤ d → d < S 0 → zbit (S 6) d = 1 → μ (b + 7) d = S (82 + d)) ∧ (∀ i, 0 ≤ i → i < S 5 → μ (b + 8) i = S (94 + i))
def SPT (μ : Mem) (b : Nat) (S pl : Int → Int) : Prop := ∃ lo up dn lk : Int → Int, Hung S 0 lo up dn lk ∧ ∀ d, 0 ≤ d → d < S 0 → μ (b + 6) d * pts S = pl d * bel S lo up dn lk d
def TPR (μ ν : Mem) : Prop := (0 ≤ ν 0 1 ∧ ν 0 1 ≤ 400) ∧ μ 0 1 = ν 0 1 ∧ ∀ i, 0 ≤ i → i < 400 → (0 ≤ μ 1 i ∧ μ 1 i ≤ 255) ∧ ν 1 i = (if μ 1 i < 128 then μ 1 i else μ 1 i - 256)
abbrev imS (ν : Mem) (k : Nat) : Int → Int := fun i => ν 24 (134 * (k : Int) + i)
abbrev imP (ν : Mem) (k : Nat) : Int → Int := fun d => ν 25 (12 * (k : Int) + d)
def IMR (n : Nat) (μ ν : Mem) : Prop := ∀ k : Nat, k < 4 → (ν 26 (k : Int) = 0 ∨ ν 26 (k : Int) = 1) ∧ μ 58 (k : Int) = ν 26 (k : Int) ∧ (ν 26 (k : Int) = 1 → StK (imS ν k) ∧ SCN μ (22 + 9 * k) (imS ν k) ∧ SPT μ (22 + 9 * k) (imS ν k) (imP ν k) ∧ SB (imS ν k) (imP ν k) ∧ BK n (imP ν k))
def Cor (n : Nat) (μ ν : Mem) : Prop := TPR μ ν ∧ StK (ν 11) ∧ SCN μ 3 (ν 11) ∧ GX μ (ν 11) (ν 14) (ν 15) (ν 16) (ν 17) (ν 12) ∧ MX ν ∧ SB (ν 11) (ν 12) ∧ BK n (ν 12) ∧ IMR n μ ν
/-- the rules' cells are as they were -/
abbrev Kp (μ μ' : Mem) : Prop := ∀ c i, ((c = 79 ∧ i = 1) ∨ c = 80 ∨ c = 81) → μ' c i = μ c i
abbrev Kq (ν ν' : Mem) : Prop := ∀ c i, ((c = 0 ∧ i = 2) ∨ c = 2 ∨ (c = 3 ∧ i < 6) ∨ c = 4 ∨ c = 5) → ν' c i = ν c i
theorem kp0 (μ : Mem) : Kp μ μ := fun _ _ _ => rfl
theorem kq0 (ν : Mem) : Kq ν ν := fun _ _ _ => rfl
theorem BK.mono {n m : Nat} {pl : Int → Int} (h : BK n pl) (hm : n ≤ m) : BK m pl := fun d d0 d1 => by
  have := h d d0 d1
  have h2 : (n : Int) * 112000000000000 ≤ (m : Int) * 112000000000000 := by omega
  omega
theorem IMR.mono {n m : Nat} {μ ν : Mem} (h : IMR n μ ν) (hm : n ≤ m) : IMR m μ ν := fun k hk => by
  obtain ⟨a, b, c⟩ := h k hk
  refine ⟨a, b, fun q => ?_⟩
  obtain ⟨c1, c2, c3, c4, c5⟩ := c q
  exact ⟨c1, c2, c3, c4, c5.mono hm⟩
theorem Cor.next {n : Nat} {μ ν : Mem} (h : Cor n μ ν) : Cor (n + 1) μ ν := by
  obtain ⟨a, b, c, d, e, f, g, i⟩ := h
  exact ⟨a, b, c, d, e, f, g.mono (by omega), i.mono (by omega)⟩
theorem BK.pb {n : Nat} {pl : Int → Int} (h : BK n pl) (hn : n ≤ 512) : PB pl := fun d d0 d1 => by
  have := h d d0 d1
  omega
theorem out_I {a b : Int} (h : b = a) : vI b = vI a := by rw [h]
theorem out_L {a b : Int} (h : b = a) : vL b = vL a := by rw [h]
/-- the same answer, an int (1) or a long (2) -/
abbrev Sm (k : Nat) (r' r : PV) : Prop := r' = r ∧ r.1 = k
theorem sm_I {a b : Int} (h : b = a) : Sm 1 (vI b) (vI a) := ⟨by rw [h], rfl⟩
theorem sm_L {a b : Int} (h : b = a) : Sm 2 (vL b) (vL a) := ⟨by rw [h], rfl⟩
theorem SCN.keep {μ ν : Mem} {b : Nat} {S : Int → Int} (h : SCN μ b S) (e : ∀ c i, b ≤ c → c ≤ b + 8 → ν c i = μ c i) : SCN ν b S := by
  have r : ∀ c, b ≤ c → c ≤ b + 8 → ν c = μ c := fun c h1 h2 => funext (fun i => e c i h1 h2)
  unfold SCN
  rw [r b (by omega) (by omega), r (b + 1) (by omega) (by omega), r (b + 2) (by omega) (by omega), r (b + 3) (by omega) (by omega), r (b + 4) (by omega) (by omega), r (b + 5) (by omega) (by omega), r (b + 7) (by omega) (by omega), r (b + 8) (by omega) (by omega)]
  exact h
theorem IMR.keep {n : Nat} {μ ν μ' ν' : Mem} (h : IMR n μ ν) (e : ∀ c i, 22 ≤ c → c ≤ 58 → μ' c i = μ c i) (e24 : ν' 24 = ν 24) (e25 : ν' 25 = ν 25) (e26 : ν' 26 = ν 26) : IMR n μ' ν' := by
  intro k hk
  obtain ⟨a, b, c⟩ := h k hk
  unfold imS imP at *
  rw [e24, e25, e26, e 58 _ (by decide) (by decide)]
  refine ⟨a, b, fun q => ?_⟩
  obtain ⟨c1, c2, ⟨lo, up, dn, lk, c3, c4⟩, c5, c6⟩ := c q
  refine ⟨c1, c2.keep (fun c i h1 h2 => e c i (by omega) (by omega)), ⟨lo, up, dn, lk, c3, fun d d0 d1 => ?_⟩, c5, c6⟩
  rw [e (22 + 9 * k + 6) _ (by omega) (by omega)]
  exact c4 d d0 d1
theorem TPR.keep {μ ν μ' ν' : Mem} (h : TPR μ ν) (a : μ' 0 1 = μ 0 1) (b : μ' 1 = μ 1) (c : ν' 0 1 = ν 0 1) (d : ν' 1 = ν 1) : TPR μ' ν' := by
  unfold TPR
  rw [a, b, c, d]
  exact h
/-- the reference's cells that last -/
abbrev cqm (c : Nat) (i : Int) : Prop := c = 1 ∨ c = 11 ∨ c = 12 ∨ (14 ≤ c ∧ c ≤ 17) ∨ (24 ≤ c ∧ c ≤ 26) ∨ (c = 0 ∧ (i = 1 ∨ i = 32))
/-- a call that changes neither tape nor street nor gears nor places nor images, but what was told beside -/
theorem Cor.told {n : Nat} {μ ν μ' ν' : Mem} (h : Cor n μ ν) (f : ∀ c i, ¬ ((c = 3 ∧ (10 ≤ i ∧ i ≤ 16)) ∨ c = 10 ∨ c = 11) → c ≤ 64 → μ' c i = μ c i) (g : ∀ c i, c ≠ 11 → cqm c i → ν' c i = ν c i) (ag : AG (ν 11) (ν' 11)) (hK : StK (ν' 11)) (hs : SCN μ' 3 (ν' 11)) : Cor (n + 1) μ' ν' := by
  obtain ⟨hTP, -, hSc, hG, hM, hSB, hBK, hIM⟩ := h.next
  have rm : ∀ c, c ≠ 11 → (∀ i, cqm c i) → ν' c = ν c := fun c h1 h2 => funext (fun i => g c i h1 (h2 i))
  have hG' : GX μ' (ν 11) (ν 14) (ν 15) (ν 16) (ν 17) (ν 12) := hG.keep (fun c i q => f c i (by unfold gxc at q; omega) (by unfold gxc at q; omega))
  have hS := hG.1
  refine ⟨hTP.keep (f 0 1 (by omega) (by decide)) (funext fun i => f 1 i (by omega) (by decide)) (g 0 1 (by decide) (by unfold cqm; omega)) (rm 1 (by decide) (fun i => by unfold cqm; omega)), hK, hs, ?_, ag.mx hM (rm 14 (by decide) (fun i => by unfold cqm; omega)) (rm 15 (by decide) (fun i => by unfold cqm; omega)) (rm 16 (by decide) (fun i => by unfold cqm; omega)) (rm 17 (by decide) (fun i => by unfold cqm; omega)) (g 0 32 (by decide) (by unfold cqm; omega)) (rm 12 (by decide) (fun i => by unfold cqm; omega)), ?_, ?_, hIM.keep (fun c i h1 h2 => f c i (by omega) (by omega)) (rm 24 (by decide) (fun i => by unfold cqm; omega)) (rm 25 (by decide) (fun i => by unfold cqm; omega)) (rm 26 (by decide) (fun i => by unfold cqm; omega))⟩
  · rw [rm 14 (by decide) (fun i => by unfold cqm; omega), rm 15 (by decide) (fun i => by unfold cqm; omega), rm 16 (by decide) (fun i => by unfold cqm; omega), rm 17 (by decide) (fun i => by unfold cqm; omega), rm 12 (by decide) (fun i => by unfold cqm; omega)]
    exact ag.gx hG'
  · rw [rm 12 (by decide) (fun i => by unfold cqm; omega)]
    intro d d0 d1 d2
    rw [ag.a0] at d1
    have h0 := hS.1
    rw [ag.qspn d0 (by omega)] at d2
    rw [ag.qspn d0 (by omega), ag.qpts hS]
    exact hSB d d0 d1 d2
  · rw [rm 12 (by decide) (fun i => by unfold cqm; omega)]
    exact hBK
/-- a call that changes places alone -/
theorem Cor.moved {n : Nat} {μ ν μ' ν' : Mem} (h : Cor n μ ν) (f : ∀ c i, c ≠ 9 → c ≤ 58 → μ' c i = μ c i) (g : ∀ c i, c ≠ 12 → cqm c i → ν' c i = ν c i) (hG : GX μ' (ν 11) (ν 14) (ν 15) (ν 16) (ν 17) (ν' 12)) (hs : SB (ν 11) (ν' 12)) (hb : BK (n + 1) (ν' 12)) : Cor (n + 1) μ' ν' := by
  obtain ⟨hTP, hK, hSc, -, hM, -, -, hIM⟩ := h.next
  have rm : ∀ c, c ≠ 12 → (∀ i, cqm c i) → ν' c = ν c := fun c h1 h2 => funext (fun i => g c i h1 (h2 i))
  have e11 := rm 11 (by decide) (fun i => by unfold cqm; omega)
  refine ⟨hTP.keep (f 0 1 (by omega) (by decide)) (funext fun i => f 1 i (by omega) (by decide)) (g 0 1 (by decide) (by unfold cqm; omega)) (rm 1 (by decide) (fun i => by unfold cqm; omega)), by rw [e11]; exact hK, ?_, ?_, ?_, by rw [e11]; exact hs, hb, hIM.keep (fun c i h1 h2 => f c i (by omega) (by omega)) (rm 24 (by decide) (fun i => by unfold cqm; omega)) (rm 25 (by decide) (fun i => by unfold cqm; omega)) (rm 26 (by decide) (fun i => by unfold cqm; omega))⟩
  · rw [e11]
    have r : ∀ c, c ≠ 9 → c ≤ 58 → μ' c = μ c := fun c h1 h2 => funext (fun i => f c i h1 h2)
    unfold SCN at hSc ⊢
    rw [r 3 (by decide) (by decide), r 4 (by decide) (by decide), r 5 (by decide) (by decide), r 6 (by decide) (by decide), r 7 (by decide) (by decide), r 8 (by decide) (by decide), r 10 (by decide) (by decide), r 11 (by decide) (by decide)]
    exact hSc
  · rw [e11, rm 14 (by decide) (fun i => by unfold cqm; omega), rm 15 (by decide) (fun i => by unfold cqm; omega), rm 16 (by decide) (fun i => by unfold cqm; omega), rm 17 (by decide) (fun i => by unfold cqm; omega)]
    exact hG
  · obtain ⟨m1, m2, m3, m4, m5⟩ := hM
    unfold MX
    rw [e11, rm 14 (by decide) (fun i => by unfold cqm; omega), rm 15 (by decide) (fun i => by unfold cqm; omega), rm 16 (by decide) (fun i => by unfold cqm; omega), rm 17 (by decide) (fun i => by unfold cqm; omega), g 0 32 (by decide) (by unfold cqm; omega)]
    exact ⟨m1, m2, m3, hG.2.2.2.2.2, m5⟩
