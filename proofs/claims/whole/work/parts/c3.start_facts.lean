/-! what the Statement gives of the start -/
theorem st_TW {s : State} {b : Nat} (hts : ∀ w ∈ lw_tbl, w.before #[Value.ref b] s = true) : TW s := fun w hw ok a => va_tabs (tw_on ok) rfl (hts w hw)
theorem st_TA {s : State} {b : Nat} (hts : ∀ w ∈ lw_tbl, w.before #[Value.ref b] s = true) : TA s := fun ty hm a => word_at (State.WarmedH.refl s) (Or.inr ⟨ty, rfl⟩) (hts _ hm)
theorem st_AO {s : State} {b : Nat} (hts : ∀ w ∈ lw_tbl, w.before #[Value.ref b] s = true) : va_AO RX6 s := va_AO.of (hts _ (in_tab1 _ (List.mem_of_getElem? (i := 150) rfl)))
set_option maxHeartbeats 4000000 in
theorem st_K {s : State} {b : Nat} (hts : ∀ w ∈ lw_tbl, w.before #[Value.ref b] s = true) : ∃ D : va_G, va_K D classes [] s := by
  have hw : TW s := st_TW hts
  obtain ⟨c0, i0, k0⟩ := u_known (C := RX0) (T := TX0) (N := 4) (TW.lays (args := #[Value.ref b]) hw inX0) (fun w h => h) (hts (.instantiable RX0 4) (in_tab1 _ (List.mem_of_getElem? (i := 202) rfl)))
  obtain ⟨c1, i1, k1⟩ := u_known (C := RX1) (T := TX1) (N := 6) (TW.lays (args := #[Value.ref b]) hw inX1) (fun w h => h) (hts (.instantiable RX1 6) (in_tab2 _ (List.mem_of_getElem? (i := 112) rfl)))
  obtain ⟨c2, i2, k2⟩ := u_known (C := RX2) (T := TX2) (N := 9) (TW.lays (args := #[Value.ref b]) hw inX2) (fun w h => h) (hts (.instantiable RX2 9) (in_tab1 _ (List.mem_of_getElem? (i := 152) rfl)))
  obtain ⟨c3, i3, k3⟩ := u_known (C := RX3) (T := TX3) (N := 16) (TW.lays (args := #[Value.ref b]) hw inX3) (fun w h => h) (hts (.instantiable RX3 16) (in_tab1 _ (List.mem_of_getElem? (i := 223) rfl)))
  obtain ⟨c4, i4, k4⟩ := u_known (C := RX4) (T := TX4) (N := 6) (TW.lays (args := #[Value.ref b]) hw inX4) (fun w h => h) (hts (.instantiable RX4 6) (in_tab2 _ (List.mem_of_getElem? (i := 39) rfl)))
  obtain ⟨c5, i5, k5⟩ := u_known (C := RX5) (T := TX5) (N := 9) (TW.lays (args := #[Value.ref b]) hw inX5) (fun w h => h) (hts (.instantiable RX5 9) (in_tab2 _ (List.mem_of_getElem? (i := 78) rfl)))
  obtain ⟨c6, i6, k6⟩ := u_known (C := RX6) (T := TX6) (N := 17) (TW.lays (args := #[Value.ref b]) hw inX6) (fun w h => h) (hts (.instantiable RX6 17) (in_tab1 _ (List.mem_of_getElem? (i := 53) rfl)))
  obtain ⟨c7, i7, k7⟩ := u_known (C := RX7) (T := TX7) (N := 4) (TW.lays (args := #[Value.ref b]) hw inX7) (fun w h => h) (hts (.instantiable RX7 4) (in_tab1 _ (List.mem_of_getElem? (i := 29) rfl)))
  obtain ⟨c8, i8, k8⟩ := u_known (C := RX8) (T := TX8) (N := 2) (TW.lays (args := #[Value.ref b]) hw inX8) (fun w h => h) (hts (.instantiable RX8 2) (in_tab2 _ (List.mem_of_getElem? (i := 65) rfl)))
  obtain ⟨c9, i9, k9⟩ := u_known (C := RX9) (T := TX9) (N := 15) (TW.lays (args := #[Value.ref b]) hw inX9) (fun w h => h) (hts (.instantiable RX9 15) (in_tab1 _ (List.mem_of_getElem? (i := 21) rfl)))
  obtain ⟨c10, i10, k10⟩ := u_known (C := RX10) (T := TX10) (N := 47) (TW.lays (args := #[Value.ref b]) hw inX10) (fun w h => h) (hts (.instantiable RX10 47) (in_tab5 _ (List.mem_of_getElem? (i := 129) rfl)))
  refine ⟨(fun c => [c0, c1, c2, c3, c4, c5, c6, c7, c8, c9, c10].getD c c0, fun c => [i0, i1, i2, i3, i4, i5, i6, i7, i8, i9, i10].getD c i0), fun c q hq => ?_, fun k q hk => by simp at hk⟩
  have hc : c < 11 := (List.getElem?_eq_some_iff.mp hq).1
  rcases (show c = 0 ∨ c = 1 ∨ c = 2 ∨ c = 3 ∨ c = 4 ∨ c = 5 ∨ c = 6 ∨ c = 7 ∨ c = 8 ∨ c = 9 ∨ c = 10 by omega) with rfl | rfl | rfl | rfl | rfl | rfl | rfl | rfl | rfl | rfl | rfl
  · have e := Option.some.inj hq; subst e; exact k0
  · have e := Option.some.inj hq; subst e; exact k1
  · have e := Option.some.inj hq; subst e; exact k2
  · have e := Option.some.inj hq; subst e; exact k3
  · have e := Option.some.inj hq; subst e; exact k4
  · have e := Option.some.inj hq; subst e; exact k5
  · have e := Option.some.inj hq; subst e; exact k6
  · have e := Option.some.inj hq; subst e; exact k7
  · have e := Option.some.inj hq; subst e; exact k8
  · have e := Option.some.inj hq; subst e; exact k9
  · have e := Option.some.inj hq; subst e; exact k10
abbrev fN : List Cond := flatC (Jvm.Cond.and given_1 narrow_1)
def tmS : List Term := [.string "DoorsOnCogs$StreetReader" 68, .string "DoorsOnCogs$StreetReader" 74, .string "DoorsOnCogs$StreetReader" 76, .string "DoorsOnCogs$StreetReader" 78, .string "DoorsOnCogs$StreetReader" 80, .string "DoorsOnCogs$RuleReader" 63, .string "DoorsOnCogs$RuleReader" 83, .string "DoorsOnCogs$RuleBook" 103, .string "DoorsOnCogs$RuleBook" 104, .string "DoorsOnCogs$RuleBook" 105, .string "DoorsOnCogs$RuleBook" 107, .string "DoorsOnCogs$RuleBook" 109, .string "DoorsOnCogs$RuleBook" 111, .string "DoorsOnCogs$RuleBook" 113, .string "DoorsOnCogs$RuleReader" 125, .string "DoorsOnCogs$RuleReader" 130, .string "DoorsOnCogs$RuleReader" 132]
def tm_ (i : Nat) : Term := tmS.getD i (.arg 0)
def pX_ : List Nat := [9, 17, 26, 36, 47, 60, 73, 101, 118, 135, 154, 173, 194, 216, 240, 261, 284]
def pC_ : List Nat := [10, 18, 27, 37, 48, 61, 74, 102, 119, 136, 155, 174, 195, 217, 241, 262, 285]
def pA_ : List Nat := [11, 19, 28, 38, 49, 62, 75, 103, 120, 137, 156, 175, 196, 218, 242, 263, 286]
def pL_ : List Nat := [12, 20, 29, 39, 50, 63, 76, 104, 121, 138, 157, 176, 197, 219, 243, 264, 287]
def pE_ : List Nat := [13, 21, 30, 40, 51, 64, 77, 105, 122, 139, 158, 177, 198, 220, 244, 265, 288]
def pN_ : List (List Nat) := [[0, 25, 34, 44, 56, 68, 80, 110, 126, 144, 162, 182, 203, 226, 246, 268, 290], [0, 0, 35, 45, 57, 69, 81, 111, 127, 145, 163, 183, 204, 227, 247, 269, 291], [0, 0, 0, 46, 58, 70, 82, 112, 128, 146, 164, 184, 205, 228, 248, 270, 292], [0, 0, 0, 0, 59, 71, 83, 113, 129, 147, 165, 185, 206, 229, 249, 271, 293], [0, 0, 0, 0, 0, 72, 84, 114, 130, 148, 166, 186, 207, 230, 250, 272, 294], [0, 0, 0, 0, 0, 0, 85, 115, 131, 149, 167, 187, 208, 231, 251, 273, 295], [0, 0, 0, 0, 0, 0, 0, 116, 132, 150, 168, 188, 209, 232, 252, 274, 296], [0, 0, 0, 0, 0, 0, 0, 0, 134, 152, 170, 190, 211, 234, 254, 276, 298], [0, 0, 0, 0, 0, 0, 0, 0, 0, 153, 171, 191, 212, 235, 255, 277, 299], [0, 0, 0, 0, 0, 0, 0, 0, 0, 0, 172, 192, 213, 236, 256, 278, 300], [0, 0, 0, 0, 0, 0, 0, 0, 0, 0, 0, 193, 214, 237, 257, 279, 301], [0, 0, 0, 0, 0, 0, 0, 0, 0, 0, 0, 0, 215, 238, 258, 280, 302], [0, 0, 0, 0, 0, 0, 0, 0, 0, 0, 0, 0, 0, 239, 259, 281, 303], [0, 0, 0, 0, 0, 0, 0, 0, 0, 0, 0, 0, 0, 0, 260, 282, 304], [0, 0, 0, 0, 0, 0, 0, 0, 0, 0, 0, 0, 0, 0, 0, 283, 305], [0, 0, 0, 0, 0, 0, 0, 0, 0, 0, 0, 0, 0, 0, 0, 0, 306], [0, 0, 0, 0, 0, 0, 0, 0, 0, 0, 0, 0, 0, 0, 0, 0, 0]]
theorem tm_ex : ∀ i, i < 17 → fN[pX_.getD i 0]? = some (Cond.exactly (tm_ i) "java/lang/String") := by decide +kernel
theorem tm_co : ∀ i, i < 17 → fN[pC_.getD i 0]? = some (Cond.eq (.field (tm_ i) "java/lang/String" "coder" "B") (.int 0)) := by decide +kernel
theorem tm_ar : ∀ i, i < 17 → fN[pA_.getD i 0]? = some (Cond.arrayOf (.field (tm_ i) "java/lang/String" "value" "[B") .byte) := by decide +kernel
theorem tm_le : ∀ i, i < 17 → fN[pL_.getD i 0]? = some (Cond.eq (.length (.field (tm_ i) "java/lang/String" "value" "[B")) (.int (Int32.ofNat (sLen.getD i 0)))) := by decide +kernel
theorem tm_el : ∀ i, i < 17 → ∀ j, j < sLen.getD i 0 → fN[pE_.getD i 0 + j]? = some (Cond.eq (.elem (.field (tm_ i) "java/lang/String" "value" "[B") (.int (Int32.ofNat j))) (.int ((sByt.getD i []).getD j 0))) := by decide +kernel
theorem tm_ne : ∀ i, i < 17 → ∀ j, j < 17 → i < j → fN[(pN_.getD i []).getD j 0]? = some (Cond.not (Cond.eq (tm_ i) (tm_ j))) := by decide +kernel
set_option maxHeartbeats 4000000 in
theorem st_SK {s : State} {b : Nat} (hts : ∀ w ∈ lw_tbl, w.before #[Value.ref b] s = true) (hgv : (Jvm.Cond.and given_1 narrow_1).before #[Value.ref b] s = true) : ∃ adK adV : Nat → Nat, ∀ G : Gd, G.2.1 = adK → G.2.2.1 = adV → ∀ A : Nat → Prop, (∀ q, A q → s.heap.size ≤ q) → SK G A s s.heap := by
  have hs := flat_of_before _ hgv
  obtain ⟨adK, adV, hS, hE⟩ := vk_Sof (args := #[Value.ref b]) (s := s) (N := 17) (tm := tm_) (len := sLen) (byt := sByt) (A := fun q : Nat => s.heap.size ≤ q) (by decide) (fun i hi => hs _ (List.mem_of_getElem? (tm_ex i hi))) (fun i hi => hs _ (List.mem_of_getElem? (tm_co i hi))) (fun i hi => hs _ (List.mem_of_getElem? (tm_ar i hi))) (fun i hi => hs _ (List.mem_of_getElem? (tm_le i hi))) (fun i hi j hj => hs _ (List.mem_of_getElem? (tm_el i hi j hj)))
    (fun i j hi hj hij => by
      rcases Nat.lt_or_gt_of_ne hij with h | h
      · exact Or.inl (hs _ (List.mem_of_getElem? (tm_ne i hi j hj h)))
      · exact Or.inr (hs _ (List.mem_of_getElem? (tm_ne j hj i hi h)))) (fun a h => Nat.not_le.mpr h)
  refine ⟨adK, adV, fun G h1 h2 A hA => ⟨?_, ?_, ?_, ?_⟩⟩
  · rw [h1, h2]; exact hS.narrow hA
  · rw [h1]
    intro q hq
    simp only [sTab, List.mem_cons, List.not_mem_nil, or_false] at hq
    rcases hq with rfl | rfl | rfl | rfl | rfl | rfl | rfl | rfl | rfl | rfl | rfl | rfl | rfl | rfl | rfl | rfl | rfl | rfl
    · exact vk_R.of (hts _ (in_tab2 _ (List.mem_of_getElem? (i := 224) rfl))) (hE 0 (by decide))
    · exact vk_R.of (hts _ (in_tab3 _ (List.mem_of_getElem? (i := 45) rfl))) (hE 1 (by decide))
    · exact vk_R.of (hts _ (in_tab3 _ (List.mem_of_getElem? (i := 46) rfl))) (hE 2 (by decide))
    · exact vk_R.of (hts _ (in_tab3 _ (List.mem_of_getElem? (i := 47) rfl))) (hE 3 (by decide))
    · exact vk_R.of (hts _ (in_tab3 _ (List.mem_of_getElem? (i := 48) rfl))) (hE 4 (by decide))
    · exact vk_R.of (hts _ (in_tab3 _ (List.mem_of_getElem? (i := 185) rfl))) (hE 5 (by decide))
    · exact vk_R.of (hts _ (in_tab3 _ (List.mem_of_getElem? (i := 195) rfl))) (hE 6 (by decide))
    · exact vk_R.of (hts _ (in_tab3 _ (List.mem_of_getElem? (i := 218) rfl))) (va_eqR (hs (Cond.eq (.string "DoorsOnCogs$StreetReader" 78) (.string "DoorsOnCogs$RuleBook" 101)) (List.mem_of_getElem? (i := 97) rfl)) (hE 3 (by decide)))
    · exact vk_R.of (hts _ (in_tab3 _ (List.mem_of_getElem? (i := 219) rfl))) (hE 7 (by decide))
    · exact vk_R.of (hts _ (in_tab3 _ (List.mem_of_getElem? (i := 220) rfl))) (hE 8 (by decide))
    · exact vk_R.of (hts _ (in_tab3 _ (List.mem_of_getElem? (i := 221) rfl))) (hE 9 (by decide))
    · exact vk_R.of (hts _ (in_tab3 _ (List.mem_of_getElem? (i := 222) rfl))) (hE 10 (by decide))
    · exact vk_R.of (hts _ (in_tab3 _ (List.mem_of_getElem? (i := 223) rfl))) (hE 11 (by decide))
    · exact vk_R.of (hts _ (in_tab3 _ (List.mem_of_getElem? (i := 224) rfl))) (hE 12 (by decide))
    · exact vk_R.of (hts _ (in_tab3 _ (List.mem_of_getElem? (i := 225) rfl))) (hE 13 (by decide))
    · exact vk_R.of (hts _ (in_tab4 _ (List.mem_of_getElem? (i := 20) rfl))) (hE 14 (by decide))
    · exact vk_R.of (hts _ (in_tab4 _ (List.mem_of_getElem? (i := 21) rfl))) (hE 15 (by decide))
    · exact vk_R.of (hts _ (in_tab4 _ (List.mem_of_getElem? (i := 22) rfl))) (hE 16 (by decide))
  · exact (va_Zof (hts (.laysStatic "java/lang/String" "COMPACT_STRINGS" "Z") (in_tab3 _ (List.mem_of_getElem? (i := 2) rfl))) (hts _ (in_tab1 _ (List.mem_of_getElem? (i := 14) rfl))) (va_eqi (hs (Cond.eq (.static "java/lang/String" "COMPACT_STRINGS" "Z") (.int 1)) (List.mem_of_getElem? (i := 4) rfl))) (fun a h => Nat.not_le.mpr h)).narrow hA
  · exact (va_Zqof (hts (.laysStatic "jdk/internal/util/Preconditions" "SIOOBE_FORMATTER" "Ljava/util/function/BiFunction;") (in_tab3 _ (List.mem_of_getElem? (i := 22) rfl))) (hts _ (in_tab1 _ (List.mem_of_getElem? (i := 16) rfl))) (hs (Cond.isRef (.static "jdk/internal/util/Preconditions" "SIOOBE_FORMATTER" "Ljava/util/function/BiFunction;")) (List.mem_of_getElem? (i := 5) rfl)) (fun a h => Nat.not_le.mpr h)).narrow hA
