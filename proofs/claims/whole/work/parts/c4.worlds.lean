/-! the two worlds as they are made -/
theorem cell_q {c : ClassId} {n : Nat} {f g : Nat → Option Nat} (h : ∀ j, j < n → f j = g j) : vp_cell c (n, .inr (.inr (.inr (.inr f)))) = vp_cell c (n, .inr (.inr (.inr (.inr g)))) := by
  have e : (Array.ofFn (n := n) fun j => va_rf (f j.val)) = Array.ofFn (n := n) fun j => va_rf (g j.val) := by
    congr 1
    funext j
    rw [h j.val j.isLt]
  rw [vp_cell_q, vp_cell_q]
  unfold arrV
  rw [e]
theorem up4 {q0 q1 q2 q3 : Nat} {g : Nat → Option Nat} (h0 : g 0 = some q0) (h1 : g 1 = some q1) (h2 : g 2 = some q2) (h3 : g 3 = some q3) : ∀ j, j < 4 → va_up (va_up (va_up (va_up (fun _ => none) (0 : Int32).toNatClampNeg (some q0)) (1 : Int32).toNatClampNeg (some q1)) (2 : Int32).toNatClampNeg (some q2)) (3 : Int32).toNatClampNeg (some q3) j = g j := by
  intro j hj
  have e0 : (0 : Int32).toNatClampNeg = 0 := by decide +kernel
  have e1 : (1 : Int32).toNatClampNeg = 1 := by decide +kernel
  have e2 : (2 : Int32).toNatClampNeg = 2 := by decide +kernel
  have e3 : (3 : Int32).toNatClampNeg = 3 := by decide +kernel
  rw [e0, e1, e2, e3]
  rcases (show j = 0 ∨ j = 1 ∨ j = 2 ∨ j = 3 by omega) with rfl | rfl | rfl | rfl
  · rw [h0]; rfl
  · rw [h1]; rfl
  · rw [h2]; rfl
  · rw [h3]; rfl
theorem va_same {D : va_G} {cl : List vw_C} {ws : va_W} {H : Heap} (h : va_P D cl ws H) (i : Nat) {a n : Nat} {c : ClassId} {e e' : (Nat → Int32) ⊕ (Nat → Int64) ⊕ (Nat → UInt32) ⊕ (Nat → UInt64) ⊕ (Nat → Option Nat)} (h1 : ws[i]? = some (a, .inl (c, n, e))) (hc : vp_cell c (n, e) = vp_cell c (n, e')) : va_P D cl (ws.set i (a, .inl (c, n, e'))) H := by
  intro k q hq
  rw [List.getElem?_set] at hq
  by_cases hk : i = k
  · subst hk
    rw [if_pos rfl] at hq
    split at hq
    · cases hq
      have := h i _ h1
      show H[a]? = some (vp_cell c (n, e'))
      rw [← hc]
      exact this
    · cases hq
  · rw [if_neg hk] at hq
    exact h k q hq
theorem g64 (g : Nat → Int64) : g = fun j : Nat => Int64.ofInt (g (j : Int).toNat).toInt := by
  funext j
  rw [r64]
  rfl
theorem wld_of {Y : Ly} {G : Gd} {μ : Mem} {ws : va_W} {H : Heap} {π : Nat → Nat} (hw : ∀ i, i < Y.1 → ws[π i]? = some (G.1 i, wC Y G (μ i) i)) (h : va_P (dG G) classes ws H) : va_P (dG G) classes (wld Y G μ) H := by
  intro n q hq
  have hn : n < Y.1 := by have := (List.getElem?_eq_some_iff.mp hq).1; rwa [wld_len] at this
  rw [wld_get hn] at hq
  cases hq
  exact h _ _ (hw n hn)
theorem va_left {D : va_G} {cl : List vw_C} {w1 w2 : va_W} {H : Heap} (h : va_P D cl (w1 ++ w2) H) : va_P D cl w1 H := fun k q hk => h k q (by rw [List.getElem?_append_left (List.getElem?_eq_some_iff.mp hk).1]; exact hk)
theorem va_right {D : va_G} {cl : List vw_C} {w1 w2 : va_W} {H : Heap} (h : va_P D cl (w1 ++ w2) H) : va_P D cl w2 H := fun k q hk => h (w1.length + k) q (by rw [List.getElem?_append_right (Nat.le_add_right _ _), Nat.add_sub_cancel_left]; exact hk)
theorem va_one {D : va_G} {tys : List (ClassId × FieldType)} {s : State} (h : va_K D classes tys s) (t : Nat) {q : ClassId × FieldType} (hq : tys[t]? = some q) : va_K D classes [q] s := h.sub [t] (by simp [hq])
def muD (g1 g2 : Nat → Int64) : Mem := fun c i => if c = 63 then (g1 i.toNat).toInt else if c = 71 then (g2 i.toNat).toInt else 0
def nuM : Mem := fun c i => if c = 0 ∧ i = 32 then 1 else 0
def WD (a : Nat → Nat) (k : Nat → ClassId) (g1 g2 : Nat → Int64) : va_W := [((a 0), .inr (9, [.ref (a 1), .int 0, .ref (a 2), .ref (a 3), .ref (a 12), .ref (a 21), .ref (a 58), .ref (a 59), .ref (a 66), .ref (a 74), .ref (a 79), .ref (a 83), .ref (a 84), .ref (a 86), .ref (a 88)])), ((a 1), .inl ((k 1), 400, .inl (fun _ => 0))), ((a 2), .inr (7, [.ref (a 1), .int 0, .int 0, .int 0])), ((a 3), .inr (6, [.int 0, .ref (a 4), .ref (a 5), .int 0, .int 0, .int 0, .ref (a 6), .ref (a 7), .ref (a 8), .ref (a 9), .int 0, .int 0, .int 0, .ref (a 10), .int 0, .ref (a 11), .int 0])), ((a 4), .inl ((k 4), 12, .inl (fun _ => 0))), ((a 5), .inl ((k 5), 12, .inl (fun _ => 0))), ((a 6), .inl ((k 6), 16, .inl (fun _ => 0))), ((a 7), .inl ((k 7), 16, .inl (fun _ => 0))), ((a 8), .inl ((k 8), 16, .inl (fun _ => 0))), ((a 9), .inl ((k 9), 12, .inr (.inl (fun _ => 0)))), ((a 10), .inl ((k 10), 12, .inl (fun _ => 0))), ((a 11), .inl ((k 11), 40, .inl (fun _ => 0))), ((a 12), .inr (6, [.int 0, .ref (a 13), .ref (a 14), .int 0, .int 0, .int 0, .ref (a 15), .ref (a 16), .ref (a 17), .ref (a 18), .int 0, .int 0, .int 0, .ref (a 19), .int 0, .ref (a 20), .int 0])), ((a 13), .inl ((k 13), 12, .inl (fun _ => 0))), ((a 14), .inl ((k 14), 12, .inl (fun _ => 0))), ((a 15), .inl ((k 15), 16, .inl (fun _ => 0))), ((a 16), .inl ((k 16), 16, .inl (fun _ => 0))), ((a 17), .inl ((k 17), 16, .inl (fun _ => 0))), ((a 18), .inl ((k 18), 12, .inr (.inl (fun _ => 0)))), ((a 19), .inl ((k 19), 12, .inl (fun _ => 0))), ((a 20), .inl ((k 20), 40, .inl (fun _ => 0))), ((a 21), .inl ((k 21), 4, .inr (.inr (.inr (.inr (fun j => some (a (22 + 9 * j)))))))), ((a 58), .inl ((k 58), 4, .inl (fun _ => 0))), ((a 59), .inr (2, [.ref (a 3), .ref (a 60), .ref (a 61), .ref (a 62), .ref (a 63), .ref (a 64), .ref (a 65), .int 0, .int 0])), ((a 60), .inl ((k 60), 12, .inl (fun _ => 0))), ((a 61), .inl ((k 61), 12, .inr (.inl (fun _ => 0)))), ((a 62), .inl ((k 62), 12, .inr (.inl (fun _ => 0)))), ((a 64), .inl ((k 64), 144, .inr (.inl (fun _ => 0)))), ((a 65), .inl ((k 65), 12, .inr (.inl (fun _ => 0)))), ((a 63), .inl ((k 63), 12, .inr (.inl g1))), ((a 66), .inr (0, [.ref (a 3), .ref (a 67), .int 0, .int 0])), ((a 67), .inr (2, [.ref (a 3), .ref (a 68), .ref (a 69), .ref (a 70), .ref (a 71), .ref (a 72), .ref (a 73), .int 0, .int 0])), ((a 68), .inl ((k 68), 12, .inl (fun _ => 0))), ((a 69), .inl ((k 69), 12, .inr (.inl (fun _ => 0)))), ((a 70), .inl ((k 70), 12, .inr (.inl (fun _ => 0)))), ((a 72), .inl ((k 72), 144, .inr (.inl (fun _ => 0)))), ((a 73), .inl ((k 73), 12, .inr (.inl (fun _ => 0)))), ((a 71), .inl ((k 71), 12, .inr (.inl g2))), ((a 74), .inr (3, [.ref (a 3), .ref (a 59), .ref (a 75), .ref (a 76), .ref (a 77), .ref (a 78), .int 0, .int 0, .int 0, .int 0, .int 0, .int 0, .int 0, .int 0, .long 0, .long 0])), ((a 75), .inl ((k 75), 2000, .inr (.inl (fun _ => 0)))), ((a 76), .inl ((k 76), 2000, .inl (fun _ => 0))), ((a 77), .inl ((k 77), 2000, .inl (fun _ => 0))), ((a 78), .inl ((k 78), 4096, .inl (fun _ => 0))), ((a 79), .inr (4, [.ref (a 59), .int 0, .ref (a 80), .ref (a 81), .ref (a 82), .int 0])), ((a 80), .inl ((k 80), 2406, .inl (fun _ => 0))), ((a 81), .inl ((k 81), 6, .inl (fun _ => 0))), ((a 82), .inl ((k 82), 400, .inr (.inl (fun _ => 0)))), ((a 83), .inr (8, [.ref (a 2), .ref (a 12)])), ((a 84), .inr (5, [.ref (a 2), .ref (a 79), .ref (a 85), .int 0, .int 0, .int 0, .int 0, .int 0, .int 0])), ((a 85), .inl ((k 85), 400, .inl (fun _ => 0))), ((a 86), .inr (1, [.ref (a 59), .ref (a 79), .int 0, .int 0, .int 0, .ref (a 87)])), ((a 87), .inl ((k 87), 12, .inr (.inl (fun _ => 0)))), ((a 88), .inl ((k 88), 60, .inl (fun _ => 0))), ((a 22), .inr (6, [.int 0, .ref (a 23), .ref (a 24), .int 0, .int 0, .int 0, .ref (a 25), .ref (a 26), .ref (a 27), .ref (a 28), .int 0, .int 0, .int 0, .ref (a 29), .int 0, .ref (a 30), .int 0])), ((a 23), .inl ((k 23), 12, .inl (fun _ => 0))), ((a 24), .inl ((k 24), 12, .inl (fun _ => 0))), ((a 25), .inl ((k 25), 16, .inl (fun _ => 0))), ((a 26), .inl ((k 26), 16, .inl (fun _ => 0))), ((a 27), .inl ((k 27), 16, .inl (fun _ => 0))), ((a 28), .inl ((k 28), 12, .inr (.inl (fun _ => 0)))), ((a 29), .inl ((k 29), 12, .inl (fun _ => 0))), ((a 30), .inl ((k 30), 40, .inl (fun _ => 0))), ((a 31), .inr (6, [.int 0, .ref (a 32), .ref (a 33), .int 0, .int 0, .int 0, .ref (a 34), .ref (a 35), .ref (a 36), .ref (a 37), .int 0, .int 0, .int 0, .ref (a 38), .int 0, .ref (a 39), .int 0])), ((a 32), .inl ((k 32), 12, .inl (fun _ => 0))), ((a 33), .inl ((k 33), 12, .inl (fun _ => 0))), ((a 34), .inl ((k 34), 16, .inl (fun _ => 0))), ((a 35), .inl ((k 35), 16, .inl (fun _ => 0))), ((a 36), .inl ((k 36), 16, .inl (fun _ => 0))), ((a 37), .inl ((k 37), 12, .inr (.inl (fun _ => 0)))), ((a 38), .inl ((k 38), 12, .inl (fun _ => 0))), ((a 39), .inl ((k 39), 40, .inl (fun _ => 0))), ((a 40), .inr (6, [.int 0, .ref (a 41), .ref (a 42), .int 0, .int 0, .int 0, .ref (a 43), .ref (a 44), .ref (a 45), .ref (a 46), .int 0, .int 0, .int 0, .ref (a 47), .int 0, .ref (a 48), .int 0])), ((a 41), .inl ((k 41), 12, .inl (fun _ => 0))), ((a 42), .inl ((k 42), 12, .inl (fun _ => 0))), ((a 43), .inl ((k 43), 16, .inl (fun _ => 0))), ((a 44), .inl ((k 44), 16, .inl (fun _ => 0))), ((a 45), .inl ((k 45), 16, .inl (fun _ => 0))), ((a 46), .inl ((k 46), 12, .inr (.inl (fun _ => 0)))), ((a 47), .inl ((k 47), 12, .inl (fun _ => 0))), ((a 48), .inl ((k 48), 40, .inl (fun _ => 0))), ((a 49), .inr (6, [.int 0, .ref (a 50), .ref (a 51), .int 0, .int 0, .int 0, .ref (a 52), .ref (a 53), .ref (a 54), .ref (a 55), .int 0, .int 0, .int 0, .ref (a 56), .int 0, .ref (a 57), .int 0])), ((a 50), .inl ((k 50), 12, .inl (fun _ => 0))), ((a 51), .inl ((k 51), 12, .inl (fun _ => 0))), ((a 52), .inl ((k 52), 16, .inl (fun _ => 0))), ((a 53), .inl ((k 53), 16, .inl (fun _ => 0))), ((a 54), .inl ((k 54), 16, .inl (fun _ => 0))), ((a 55), .inl ((k 55), 12, .inr (.inl (fun _ => 0)))), ((a 56), .inl ((k 56), 12, .inl (fun _ => 0))), ((a 57), .inl ((k 57), 40, .inl (fun _ => 0)))]
def piD : List Nat := [0, 1, 2, 3, 4, 5, 6, 7, 8, 9, 10, 11, 12, 13, 14, 15, 16, 17, 18, 19, 20, 21, 53, 54, 55, 56, 57, 58, 59, 60, 61, 62, 63, 64, 65, 66, 67, 68, 69, 70, 71, 72, 73, 74, 75, 76, 77, 78, 79, 80, 81, 82, 83, 84, 85, 86, 87, 88, 22, 23, 24, 25, 26, 29, 27, 28, 30, 31, 32, 33, 34, 37, 35, 36, 38, 39, 40, 41, 42, 43, 44, 45, 46, 47, 48, 49, 50, 51, 52]
theorem WDu_P {a : Nat → Nat} {k : Nat → ClassId} {g1 g2 : Nat → Int64} {D : va_G} {H : Heap} (h : va_P D classes (WDu a k g1 g2) H) : va_P D classes (WD a k g1 g2) H := va_same h 21 (a := a 21) (c := k 21) (n := 4) (e' := .inr (.inr (.inr (.inr (fun j => some (a (22 + 9 * j))))))) rfl (cell_q (up4 rfl rfl rfl rfl))
theorem WDu_D {a : Nat → Nat} {k : Nat → ClassId} {g1 g2 : Nat → Int64} {A : Nat → Prop} (h : va_D A (WDu a k g1 g2)) : va_D A (WD a k g1 g2) := h.set (p := 21) (a := a 21) (e := .inl (k 21, 4, .inr (.inr (.inr (.inr (fun j => some (a (22 + 9 * j)))))))) rfl
theorem WD_0 {a adK adV : Nat → Nat} {k : Nat → ClassId} {D : va_G} {g1 g2 : Nat → Int64} : (WD a k g1 g2)[0]? = some (a 0, wC YD (a, adK, adV, k, D) (muD g1 g2 0) 0) := rfl
theorem WD_1 {a adK adV : Nat → Nat} {k : Nat → ClassId} {D : va_G} {g1 g2 : Nat → Int64} : (WD a k g1 g2)[1]? = some (a 1, wC YD (a, adK, adV, k, D) (muD g1 g2 1) 1) := rfl
theorem WD_2 {a adK adV : Nat → Nat} {k : Nat → ClassId} {D : va_G} {g1 g2 : Nat → Int64} : (WD a k g1 g2)[2]? = some (a 2, wC YD (a, adK, adV, k, D) (muD g1 g2 2) 2) := rfl
theorem WD_3 {a adK adV : Nat → Nat} {k : Nat → ClassId} {D : va_G} {g1 g2 : Nat → Int64} : (WD a k g1 g2)[3]? = some (a 3, wC YD (a, adK, adV, k, D) (muD g1 g2 3) 3) := rfl
theorem WD_4 {a adK adV : Nat → Nat} {k : Nat → ClassId} {D : va_G} {g1 g2 : Nat → Int64} : (WD a k g1 g2)[4]? = some (a 4, wC YD (a, adK, adV, k, D) (muD g1 g2 4) 4) := rfl
theorem WD_5 {a adK adV : Nat → Nat} {k : Nat → ClassId} {D : va_G} {g1 g2 : Nat → Int64} : (WD a k g1 g2)[5]? = some (a 5, wC YD (a, adK, adV, k, D) (muD g1 g2 5) 5) := rfl
theorem WD_6 {a adK adV : Nat → Nat} {k : Nat → ClassId} {D : va_G} {g1 g2 : Nat → Int64} : (WD a k g1 g2)[6]? = some (a 6, wC YD (a, adK, adV, k, D) (muD g1 g2 6) 6) := rfl
theorem WD_7 {a adK adV : Nat → Nat} {k : Nat → ClassId} {D : va_G} {g1 g2 : Nat → Int64} : (WD a k g1 g2)[7]? = some (a 7, wC YD (a, adK, adV, k, D) (muD g1 g2 7) 7) := rfl
theorem WD_8 {a adK adV : Nat → Nat} {k : Nat → ClassId} {D : va_G} {g1 g2 : Nat → Int64} : (WD a k g1 g2)[8]? = some (a 8, wC YD (a, adK, adV, k, D) (muD g1 g2 8) 8) := rfl
theorem WD_9 {a adK adV : Nat → Nat} {k : Nat → ClassId} {D : va_G} {g1 g2 : Nat → Int64} : (WD a k g1 g2)[9]? = some (a 9, wC YD (a, adK, adV, k, D) (muD g1 g2 9) 9) := rfl
theorem WD_10 {a adK adV : Nat → Nat} {k : Nat → ClassId} {D : va_G} {g1 g2 : Nat → Int64} : (WD a k g1 g2)[10]? = some (a 10, wC YD (a, adK, adV, k, D) (muD g1 g2 10) 10) := rfl
theorem WD_11 {a adK adV : Nat → Nat} {k : Nat → ClassId} {D : va_G} {g1 g2 : Nat → Int64} : (WD a k g1 g2)[11]? = some (a 11, wC YD (a, adK, adV, k, D) (muD g1 g2 11) 11) := rfl
theorem WD_12 {a adK adV : Nat → Nat} {k : Nat → ClassId} {D : va_G} {g1 g2 : Nat → Int64} : (WD a k g1 g2)[12]? = some (a 12, wC YD (a, adK, adV, k, D) (muD g1 g2 12) 12) := rfl
theorem WD_13 {a adK adV : Nat → Nat} {k : Nat → ClassId} {D : va_G} {g1 g2 : Nat → Int64} : (WD a k g1 g2)[13]? = some (a 13, wC YD (a, adK, adV, k, D) (muD g1 g2 13) 13) := rfl
theorem WD_14 {a adK adV : Nat → Nat} {k : Nat → ClassId} {D : va_G} {g1 g2 : Nat → Int64} : (WD a k g1 g2)[14]? = some (a 14, wC YD (a, adK, adV, k, D) (muD g1 g2 14) 14) := rfl
theorem WD_15 {a adK adV : Nat → Nat} {k : Nat → ClassId} {D : va_G} {g1 g2 : Nat → Int64} : (WD a k g1 g2)[15]? = some (a 15, wC YD (a, adK, adV, k, D) (muD g1 g2 15) 15) := rfl
theorem WD_16 {a adK adV : Nat → Nat} {k : Nat → ClassId} {D : va_G} {g1 g2 : Nat → Int64} : (WD a k g1 g2)[16]? = some (a 16, wC YD (a, adK, adV, k, D) (muD g1 g2 16) 16) := rfl
theorem WD_17 {a adK adV : Nat → Nat} {k : Nat → ClassId} {D : va_G} {g1 g2 : Nat → Int64} : (WD a k g1 g2)[17]? = some (a 17, wC YD (a, adK, adV, k, D) (muD g1 g2 17) 17) := rfl
theorem WD_18 {a adK adV : Nat → Nat} {k : Nat → ClassId} {D : va_G} {g1 g2 : Nat → Int64} : (WD a k g1 g2)[18]? = some (a 18, wC YD (a, adK, adV, k, D) (muD g1 g2 18) 18) := rfl
theorem WD_19 {a adK adV : Nat → Nat} {k : Nat → ClassId} {D : va_G} {g1 g2 : Nat → Int64} : (WD a k g1 g2)[19]? = some (a 19, wC YD (a, adK, adV, k, D) (muD g1 g2 19) 19) := rfl
theorem WD_20 {a adK adV : Nat → Nat} {k : Nat → ClassId} {D : va_G} {g1 g2 : Nat → Int64} : (WD a k g1 g2)[20]? = some (a 20, wC YD (a, adK, adV, k, D) (muD g1 g2 20) 20) := rfl
theorem WD_21 {a adK adV : Nat → Nat} {k : Nat → ClassId} {D : va_G} {g1 g2 : Nat → Int64} : (WD a k g1 g2)[21]? = some (a 21, wC YD (a, adK, adV, k, D) (muD g1 g2 21) 21) := rfl
theorem WD_22 {a adK adV : Nat → Nat} {k : Nat → ClassId} {D : va_G} {g1 g2 : Nat → Int64} : (WD a k g1 g2)[53]? = some (a 22, wC YD (a, adK, adV, k, D) (muD g1 g2 22) 22) := rfl
theorem WD_23 {a adK adV : Nat → Nat} {k : Nat → ClassId} {D : va_G} {g1 g2 : Nat → Int64} : (WD a k g1 g2)[54]? = some (a 23, wC YD (a, adK, adV, k, D) (muD g1 g2 23) 23) := rfl
theorem WD_24 {a adK adV : Nat → Nat} {k : Nat → ClassId} {D : va_G} {g1 g2 : Nat → Int64} : (WD a k g1 g2)[55]? = some (a 24, wC YD (a, adK, adV, k, D) (muD g1 g2 24) 24) := rfl
theorem WD_25 {a adK adV : Nat → Nat} {k : Nat → ClassId} {D : va_G} {g1 g2 : Nat → Int64} : (WD a k g1 g2)[56]? = some (a 25, wC YD (a, adK, adV, k, D) (muD g1 g2 25) 25) := rfl
theorem WD_26 {a adK adV : Nat → Nat} {k : Nat → ClassId} {D : va_G} {g1 g2 : Nat → Int64} : (WD a k g1 g2)[57]? = some (a 26, wC YD (a, adK, adV, k, D) (muD g1 g2 26) 26) := rfl
theorem WD_27 {a adK adV : Nat → Nat} {k : Nat → ClassId} {D : va_G} {g1 g2 : Nat → Int64} : (WD a k g1 g2)[58]? = some (a 27, wC YD (a, adK, adV, k, D) (muD g1 g2 27) 27) := rfl
theorem WD_28 {a adK adV : Nat → Nat} {k : Nat → ClassId} {D : va_G} {g1 g2 : Nat → Int64} : (WD a k g1 g2)[59]? = some (a 28, wC YD (a, adK, adV, k, D) (muD g1 g2 28) 28) := rfl
theorem WD_29 {a adK adV : Nat → Nat} {k : Nat → ClassId} {D : va_G} {g1 g2 : Nat → Int64} : (WD a k g1 g2)[60]? = some (a 29, wC YD (a, adK, adV, k, D) (muD g1 g2 29) 29) := rfl
theorem WD_30 {a adK adV : Nat → Nat} {k : Nat → ClassId} {D : va_G} {g1 g2 : Nat → Int64} : (WD a k g1 g2)[61]? = some (a 30, wC YD (a, adK, adV, k, D) (muD g1 g2 30) 30) := rfl
theorem WD_31 {a adK adV : Nat → Nat} {k : Nat → ClassId} {D : va_G} {g1 g2 : Nat → Int64} : (WD a k g1 g2)[62]? = some (a 31, wC YD (a, adK, adV, k, D) (muD g1 g2 31) 31) := rfl
theorem WD_32 {a adK adV : Nat → Nat} {k : Nat → ClassId} {D : va_G} {g1 g2 : Nat → Int64} : (WD a k g1 g2)[63]? = some (a 32, wC YD (a, adK, adV, k, D) (muD g1 g2 32) 32) := rfl
theorem WD_33 {a adK adV : Nat → Nat} {k : Nat → ClassId} {D : va_G} {g1 g2 : Nat → Int64} : (WD a k g1 g2)[64]? = some (a 33, wC YD (a, adK, adV, k, D) (muD g1 g2 33) 33) := rfl
theorem WD_34 {a adK adV : Nat → Nat} {k : Nat → ClassId} {D : va_G} {g1 g2 : Nat → Int64} : (WD a k g1 g2)[65]? = some (a 34, wC YD (a, adK, adV, k, D) (muD g1 g2 34) 34) := rfl
theorem WD_35 {a adK adV : Nat → Nat} {k : Nat → ClassId} {D : va_G} {g1 g2 : Nat → Int64} : (WD a k g1 g2)[66]? = some (a 35, wC YD (a, adK, adV, k, D) (muD g1 g2 35) 35) := rfl
theorem WD_36 {a adK adV : Nat → Nat} {k : Nat → ClassId} {D : va_G} {g1 g2 : Nat → Int64} : (WD a k g1 g2)[67]? = some (a 36, wC YD (a, adK, adV, k, D) (muD g1 g2 36) 36) := rfl
theorem WD_37 {a adK adV : Nat → Nat} {k : Nat → ClassId} {D : va_G} {g1 g2 : Nat → Int64} : (WD a k g1 g2)[68]? = some (a 37, wC YD (a, adK, adV, k, D) (muD g1 g2 37) 37) := rfl
theorem WD_38 {a adK adV : Nat → Nat} {k : Nat → ClassId} {D : va_G} {g1 g2 : Nat → Int64} : (WD a k g1 g2)[69]? = some (a 38, wC YD (a, adK, adV, k, D) (muD g1 g2 38) 38) := rfl
theorem WD_39 {a adK adV : Nat → Nat} {k : Nat → ClassId} {D : va_G} {g1 g2 : Nat → Int64} : (WD a k g1 g2)[70]? = some (a 39, wC YD (a, adK, adV, k, D) (muD g1 g2 39) 39) := rfl
theorem WD_40 {a adK adV : Nat → Nat} {k : Nat → ClassId} {D : va_G} {g1 g2 : Nat → Int64} : (WD a k g1 g2)[71]? = some (a 40, wC YD (a, adK, adV, k, D) (muD g1 g2 40) 40) := rfl
theorem WD_41 {a adK adV : Nat → Nat} {k : Nat → ClassId} {D : va_G} {g1 g2 : Nat → Int64} : (WD a k g1 g2)[72]? = some (a 41, wC YD (a, adK, adV, k, D) (muD g1 g2 41) 41) := rfl
theorem WD_42 {a adK adV : Nat → Nat} {k : Nat → ClassId} {D : va_G} {g1 g2 : Nat → Int64} : (WD a k g1 g2)[73]? = some (a 42, wC YD (a, adK, adV, k, D) (muD g1 g2 42) 42) := rfl
theorem WD_43 {a adK adV : Nat → Nat} {k : Nat → ClassId} {D : va_G} {g1 g2 : Nat → Int64} : (WD a k g1 g2)[74]? = some (a 43, wC YD (a, adK, adV, k, D) (muD g1 g2 43) 43) := rfl
theorem WD_44 {a adK adV : Nat → Nat} {k : Nat → ClassId} {D : va_G} {g1 g2 : Nat → Int64} : (WD a k g1 g2)[75]? = some (a 44, wC YD (a, adK, adV, k, D) (muD g1 g2 44) 44) := rfl
theorem WD_45 {a adK adV : Nat → Nat} {k : Nat → ClassId} {D : va_G} {g1 g2 : Nat → Int64} : (WD a k g1 g2)[76]? = some (a 45, wC YD (a, adK, adV, k, D) (muD g1 g2 45) 45) := rfl
theorem WD_46 {a adK adV : Nat → Nat} {k : Nat → ClassId} {D : va_G} {g1 g2 : Nat → Int64} : (WD a k g1 g2)[77]? = some (a 46, wC YD (a, adK, adV, k, D) (muD g1 g2 46) 46) := rfl
theorem WD_47 {a adK adV : Nat → Nat} {k : Nat → ClassId} {D : va_G} {g1 g2 : Nat → Int64} : (WD a k g1 g2)[78]? = some (a 47, wC YD (a, adK, adV, k, D) (muD g1 g2 47) 47) := rfl
theorem WD_48 {a adK adV : Nat → Nat} {k : Nat → ClassId} {D : va_G} {g1 g2 : Nat → Int64} : (WD a k g1 g2)[79]? = some (a 48, wC YD (a, adK, adV, k, D) (muD g1 g2 48) 48) := rfl
theorem WD_49 {a adK adV : Nat → Nat} {k : Nat → ClassId} {D : va_G} {g1 g2 : Nat → Int64} : (WD a k g1 g2)[80]? = some (a 49, wC YD (a, adK, adV, k, D) (muD g1 g2 49) 49) := rfl
theorem WD_50 {a adK adV : Nat → Nat} {k : Nat → ClassId} {D : va_G} {g1 g2 : Nat → Int64} : (WD a k g1 g2)[81]? = some (a 50, wC YD (a, adK, adV, k, D) (muD g1 g2 50) 50) := rfl
theorem WD_51 {a adK adV : Nat → Nat} {k : Nat → ClassId} {D : va_G} {g1 g2 : Nat → Int64} : (WD a k g1 g2)[82]? = some (a 51, wC YD (a, adK, adV, k, D) (muD g1 g2 51) 51) := rfl
theorem WD_52 {a adK adV : Nat → Nat} {k : Nat → ClassId} {D : va_G} {g1 g2 : Nat → Int64} : (WD a k g1 g2)[83]? = some (a 52, wC YD (a, adK, adV, k, D) (muD g1 g2 52) 52) := rfl
theorem WD_53 {a adK adV : Nat → Nat} {k : Nat → ClassId} {D : va_G} {g1 g2 : Nat → Int64} : (WD a k g1 g2)[84]? = some (a 53, wC YD (a, adK, adV, k, D) (muD g1 g2 53) 53) := rfl
theorem WD_54 {a adK adV : Nat → Nat} {k : Nat → ClassId} {D : va_G} {g1 g2 : Nat → Int64} : (WD a k g1 g2)[85]? = some (a 54, wC YD (a, adK, adV, k, D) (muD g1 g2 54) 54) := rfl
theorem WD_55 {a adK adV : Nat → Nat} {k : Nat → ClassId} {D : va_G} {g1 g2 : Nat → Int64} : (WD a k g1 g2)[86]? = some (a 55, wC YD (a, adK, adV, k, D) (muD g1 g2 55) 55) := rfl
theorem WD_56 {a adK adV : Nat → Nat} {k : Nat → ClassId} {D : va_G} {g1 g2 : Nat → Int64} : (WD a k g1 g2)[87]? = some (a 56, wC YD (a, adK, adV, k, D) (muD g1 g2 56) 56) := rfl
theorem WD_57 {a adK adV : Nat → Nat} {k : Nat → ClassId} {D : va_G} {g1 g2 : Nat → Int64} : (WD a k g1 g2)[88]? = some (a 57, wC YD (a, adK, adV, k, D) (muD g1 g2 57) 57) := rfl
theorem WD_58 {a adK adV : Nat → Nat} {k : Nat → ClassId} {D : va_G} {g1 g2 : Nat → Int64} : (WD a k g1 g2)[22]? = some (a 58, wC YD (a, adK, adV, k, D) (muD g1 g2 58) 58) := rfl
theorem WD_59 {a adK adV : Nat → Nat} {k : Nat → ClassId} {D : va_G} {g1 g2 : Nat → Int64} : (WD a k g1 g2)[23]? = some (a 59, wC YD (a, adK, adV, k, D) (muD g1 g2 59) 59) := rfl
theorem WD_60 {a adK adV : Nat → Nat} {k : Nat → ClassId} {D : va_G} {g1 g2 : Nat → Int64} : (WD a k g1 g2)[24]? = some (a 60, wC YD (a, adK, adV, k, D) (muD g1 g2 60) 60) := rfl
theorem WD_61 {a adK adV : Nat → Nat} {k : Nat → ClassId} {D : va_G} {g1 g2 : Nat → Int64} : (WD a k g1 g2)[25]? = some (a 61, wC YD (a, adK, adV, k, D) (muD g1 g2 61) 61) := rfl
theorem WD_62 {a adK adV : Nat → Nat} {k : Nat → ClassId} {D : va_G} {g1 g2 : Nat → Int64} : (WD a k g1 g2)[26]? = some (a 62, wC YD (a, adK, adV, k, D) (muD g1 g2 62) 62) := rfl
theorem WD_63 {a adK adV : Nat → Nat} {k : Nat → ClassId} {D : va_G} {g1 g2 : Nat → Int64} : (WD a k g1 g2)[29]? = some (a 63, wC YD (a, adK, adV, k, D) (muD g1 g2 63) 63) := congrArg (fun f => some (a 63, (Sum.inl (k 63, 12, .inr (.inl f)) : va_E))) (g64 g1)
theorem WD_64 {a adK adV : Nat → Nat} {k : Nat → ClassId} {D : va_G} {g1 g2 : Nat → Int64} : (WD a k g1 g2)[27]? = some (a 64, wC YD (a, adK, adV, k, D) (muD g1 g2 64) 64) := rfl
theorem WD_65 {a adK adV : Nat → Nat} {k : Nat → ClassId} {D : va_G} {g1 g2 : Nat → Int64} : (WD a k g1 g2)[28]? = some (a 65, wC YD (a, adK, adV, k, D) (muD g1 g2 65) 65) := rfl
theorem WD_66 {a adK adV : Nat → Nat} {k : Nat → ClassId} {D : va_G} {g1 g2 : Nat → Int64} : (WD a k g1 g2)[30]? = some (a 66, wC YD (a, adK, adV, k, D) (muD g1 g2 66) 66) := rfl
theorem WD_67 {a adK adV : Nat → Nat} {k : Nat → ClassId} {D : va_G} {g1 g2 : Nat → Int64} : (WD a k g1 g2)[31]? = some (a 67, wC YD (a, adK, adV, k, D) (muD g1 g2 67) 67) := rfl
theorem WD_68 {a adK adV : Nat → Nat} {k : Nat → ClassId} {D : va_G} {g1 g2 : Nat → Int64} : (WD a k g1 g2)[32]? = some (a 68, wC YD (a, adK, adV, k, D) (muD g1 g2 68) 68) := rfl
theorem WD_69 {a adK adV : Nat → Nat} {k : Nat → ClassId} {D : va_G} {g1 g2 : Nat → Int64} : (WD a k g1 g2)[33]? = some (a 69, wC YD (a, adK, adV, k, D) (muD g1 g2 69) 69) := rfl
theorem WD_70 {a adK adV : Nat → Nat} {k : Nat → ClassId} {D : va_G} {g1 g2 : Nat → Int64} : (WD a k g1 g2)[34]? = some (a 70, wC YD (a, adK, adV, k, D) (muD g1 g2 70) 70) := rfl
theorem WD_71 {a adK adV : Nat → Nat} {k : Nat → ClassId} {D : va_G} {g1 g2 : Nat → Int64} : (WD a k g1 g2)[37]? = some (a 71, wC YD (a, adK, adV, k, D) (muD g1 g2 71) 71) := congrArg (fun f => some (a 71, (Sum.inl (k 71, 12, .inr (.inl f)) : va_E))) (g64 g2)
theorem WD_72 {a adK adV : Nat → Nat} {k : Nat → ClassId} {D : va_G} {g1 g2 : Nat → Int64} : (WD a k g1 g2)[35]? = some (a 72, wC YD (a, adK, adV, k, D) (muD g1 g2 72) 72) := rfl
theorem WD_73 {a adK adV : Nat → Nat} {k : Nat → ClassId} {D : va_G} {g1 g2 : Nat → Int64} : (WD a k g1 g2)[36]? = some (a 73, wC YD (a, adK, adV, k, D) (muD g1 g2 73) 73) := rfl
theorem WD_74 {a adK adV : Nat → Nat} {k : Nat → ClassId} {D : va_G} {g1 g2 : Nat → Int64} : (WD a k g1 g2)[38]? = some (a 74, wC YD (a, adK, adV, k, D) (muD g1 g2 74) 74) := rfl
theorem WD_75 {a adK adV : Nat → Nat} {k : Nat → ClassId} {D : va_G} {g1 g2 : Nat → Int64} : (WD a k g1 g2)[39]? = some (a 75, wC YD (a, adK, adV, k, D) (muD g1 g2 75) 75) := rfl
theorem WD_76 {a adK adV : Nat → Nat} {k : Nat → ClassId} {D : va_G} {g1 g2 : Nat → Int64} : (WD a k g1 g2)[40]? = some (a 76, wC YD (a, adK, adV, k, D) (muD g1 g2 76) 76) := rfl
theorem WD_77 {a adK adV : Nat → Nat} {k : Nat → ClassId} {D : va_G} {g1 g2 : Nat → Int64} : (WD a k g1 g2)[41]? = some (a 77, wC YD (a, adK, adV, k, D) (muD g1 g2 77) 77) := rfl
theorem WD_78 {a adK adV : Nat → Nat} {k : Nat → ClassId} {D : va_G} {g1 g2 : Nat → Int64} : (WD a k g1 g2)[42]? = some (a 78, wC YD (a, adK, adV, k, D) (muD g1 g2 78) 78) := rfl
theorem WD_79 {a adK adV : Nat → Nat} {k : Nat → ClassId} {D : va_G} {g1 g2 : Nat → Int64} : (WD a k g1 g2)[43]? = some (a 79, wC YD (a, adK, adV, k, D) (muD g1 g2 79) 79) := rfl
theorem WD_80 {a adK adV : Nat → Nat} {k : Nat → ClassId} {D : va_G} {g1 g2 : Nat → Int64} : (WD a k g1 g2)[44]? = some (a 80, wC YD (a, adK, adV, k, D) (muD g1 g2 80) 80) := rfl
theorem WD_81 {a adK adV : Nat → Nat} {k : Nat → ClassId} {D : va_G} {g1 g2 : Nat → Int64} : (WD a k g1 g2)[45]? = some (a 81, wC YD (a, adK, adV, k, D) (muD g1 g2 81) 81) := rfl
theorem WD_82 {a adK adV : Nat → Nat} {k : Nat → ClassId} {D : va_G} {g1 g2 : Nat → Int64} : (WD a k g1 g2)[46]? = some (a 82, wC YD (a, adK, adV, k, D) (muD g1 g2 82) 82) := rfl
theorem WD_83 {a adK adV : Nat → Nat} {k : Nat → ClassId} {D : va_G} {g1 g2 : Nat → Int64} : (WD a k g1 g2)[47]? = some (a 83, wC YD (a, adK, adV, k, D) (muD g1 g2 83) 83) := rfl
theorem WD_84 {a adK adV : Nat → Nat} {k : Nat → ClassId} {D : va_G} {g1 g2 : Nat → Int64} : (WD a k g1 g2)[48]? = some (a 84, wC YD (a, adK, adV, k, D) (muD g1 g2 84) 84) := rfl
theorem WD_85 {a adK adV : Nat → Nat} {k : Nat → ClassId} {D : va_G} {g1 g2 : Nat → Int64} : (WD a k g1 g2)[49]? = some (a 85, wC YD (a, adK, adV, k, D) (muD g1 g2 85) 85) := rfl
theorem WD_86 {a adK adV : Nat → Nat} {k : Nat → ClassId} {D : va_G} {g1 g2 : Nat → Int64} : (WD a k g1 g2)[50]? = some (a 86, wC YD (a, adK, adV, k, D) (muD g1 g2 86) 86) := rfl
theorem WD_87 {a adK adV : Nat → Nat} {k : Nat → ClassId} {D : va_G} {g1 g2 : Nat → Int64} : (WD a k g1 g2)[51]? = some (a 87, wC YD (a, adK, adV, k, D) (muD g1 g2 87) 87) := rfl
theorem WD_88 {a adK adV : Nat → Nat} {k : Nat → ClassId} {D : va_G} {g1 g2 : Nat → Int64} : (WD a k g1 g2)[52]? = some (a 88, wC YD (a, adK, adV, k, D) (muD g1 g2 88) 88) := rfl
set_option maxRecDepth 100000 in
set_option maxHeartbeats 4000000 in
theorem WD_all {a adK adV : Nat → Nat} {k : Nat → ClassId} {D : va_G} {g1 g2 : Nat → Int64} : ∀ i, i < YD.1 → (WD a k g1 g2)[piD.getD i 0]? = some (((a, adK, adV, k, D) : Gd).1 i, wC YD (a, adK, adV, k, D) (muD g1 g2 i) i) := by
  intro i hi
  have hi : i < 89 := hi
  rcases (show i = 0 ∨ i = 1 ∨ i = 2 ∨ i = 3 ∨ i = 4 ∨ i = 5 ∨ i = 6 ∨ i = 7 ∨ i = 8 ∨ i = 9 ∨ i = 10 ∨ i = 11 ∨ i = 12 ∨ i = 13 ∨ i = 14 ∨ i = 15 ∨ i = 16 ∨ i = 17 ∨ i = 18 ∨ i = 19 ∨ i = 20 ∨ i = 21 ∨ i = 22 ∨ i = 23 ∨ i = 24 ∨ i = 25 ∨ i = 26 ∨ i = 27 ∨ i = 28 ∨ i = 29 ∨ i = 30 ∨ i = 31 ∨ i = 32 ∨ i = 33 ∨ i = 34 ∨ i = 35 ∨ i = 36 ∨ i = 37 ∨ i = 38 ∨ i = 39 ∨ i = 40 ∨ i = 41 ∨ i = 42 ∨ i = 43 ∨ i = 44 ∨ i = 45 ∨ i = 46 ∨ i = 47 ∨ i = 48 ∨ i = 49 ∨ i = 50 ∨ i = 51 ∨ i = 52 ∨ i = 53 ∨ i = 54 ∨ i = 55 ∨ i = 56 ∨ i = 57 ∨ i = 58 ∨ i = 59 ∨ i = 60 ∨ i = 61 ∨ i = 62 ∨ i = 63 ∨ i = 64 ∨ i = 65 ∨ i = 66 ∨ i = 67 ∨ i = 68 ∨ i = 69 ∨ i = 70 ∨ i = 71 ∨ i = 72 ∨ i = 73 ∨ i = 74 ∨ i = 75 ∨ i = 76 ∨ i = 77 ∨ i = 78 ∨ i = 79 ∨ i = 80 ∨ i = 81 ∨ i = 82 ∨ i = 83 ∨ i = 84 ∨ i = 85 ∨ i = 86 ∨ i = 87 ∨ i = 88 by omega) with rfl | rfl | rfl | rfl | rfl | rfl | rfl | rfl | rfl | rfl | rfl | rfl | rfl | rfl | rfl | rfl | rfl | rfl | rfl | rfl | rfl | rfl | rfl | rfl | rfl | rfl | rfl | rfl | rfl | rfl | rfl | rfl | rfl | rfl | rfl | rfl | rfl | rfl | rfl | rfl | rfl | rfl | rfl | rfl | rfl | rfl | rfl | rfl | rfl | rfl | rfl | rfl | rfl | rfl | rfl | rfl | rfl | rfl | rfl | rfl | rfl | rfl | rfl | rfl | rfl | rfl | rfl | rfl | rfl | rfl | rfl | rfl | rfl | rfl | rfl | rfl | rfl | rfl | rfl | rfl | rfl | rfl | rfl | rfl | rfl | rfl | rfl | rfl | rfl
  · exact WD_0
  · exact WD_1
  · exact WD_2
  · exact WD_3
  · exact WD_4
  · exact WD_5
  · exact WD_6
  · exact WD_7
  · exact WD_8
  · exact WD_9
  · exact WD_10
  · exact WD_11
  · exact WD_12
  · exact WD_13
  · exact WD_14
  · exact WD_15
  · exact WD_16
  · exact WD_17
  · exact WD_18
  · exact WD_19
  · exact WD_20
  · exact WD_21
  · exact WD_22
  · exact WD_23
  · exact WD_24
  · exact WD_25
  · exact WD_26
  · exact WD_27
  · exact WD_28
  · exact WD_29
  · exact WD_30
  · exact WD_31
  · exact WD_32
  · exact WD_33
  · exact WD_34
  · exact WD_35
  · exact WD_36
  · exact WD_37
  · exact WD_38
  · exact WD_39
  · exact WD_40
  · exact WD_41
  · exact WD_42
  · exact WD_43
  · exact WD_44
  · exact WD_45
  · exact WD_46
  · exact WD_47
  · exact WD_48
  · exact WD_49
  · exact WD_50
  · exact WD_51
  · exact WD_52
  · exact WD_53
  · exact WD_54
  · exact WD_55
  · exact WD_56
  · exact WD_57
  · exact WD_58
  · exact WD_59
  · exact WD_60
  · exact WD_61
  · exact WD_62
  · exact WD_63
  · exact WD_64
  · exact WD_65
  · exact WD_66
  · exact WD_67
  · exact WD_68
  · exact WD_69
  · exact WD_70
  · exact WD_71
  · exact WD_72
  · exact WD_73
  · exact WD_74
  · exact WD_75
  · exact WD_76
  · exact WD_77
  · exact WD_78
  · exact WD_79
  · exact WD_80
  · exact WD_81
  · exact WD_82
  · exact WD_83
  · exact WD_84
  · exact WD_85
  · exact WD_86
  · exact WD_87
  · exact WD_88
set_option maxRecDepth 100000 in
set_option maxHeartbeats 4000000 in
theorem KD_all {k : Nat → ClassId} {D : va_G} {s : State} (hK : va_K D classes (TD_ k) s) : ∀ i ty n, i < YD.1 → YD.2.1 i = .inl (ty, n) → va_K D classes [(k i, ty)] s := by
  intro i ty n hi h
  have hi : i < 89 := hi
  rcases (show i = 0 ∨ i = 1 ∨ i = 2 ∨ i = 3 ∨ i = 4 ∨ i = 5 ∨ i = 6 ∨ i = 7 ∨ i = 8 ∨ i = 9 ∨ i = 10 ∨ i = 11 ∨ i = 12 ∨ i = 13 ∨ i = 14 ∨ i = 15 ∨ i = 16 ∨ i = 17 ∨ i = 18 ∨ i = 19 ∨ i = 20 ∨ i = 21 ∨ i = 22 ∨ i = 23 ∨ i = 24 ∨ i = 25 ∨ i = 26 ∨ i = 27 ∨ i = 28 ∨ i = 29 ∨ i = 30 ∨ i = 31 ∨ i = 32 ∨ i = 33 ∨ i = 34 ∨ i = 35 ∨ i = 36 ∨ i = 37 ∨ i = 38 ∨ i = 39 ∨ i = 40 ∨ i = 41 ∨ i = 42 ∨ i = 43 ∨ i = 44 ∨ i = 45 ∨ i = 46 ∨ i = 47 ∨ i = 48 ∨ i = 49 ∨ i = 50 ∨ i = 51 ∨ i = 52 ∨ i = 53 ∨ i = 54 ∨ i = 55 ∨ i = 56 ∨ i = 57 ∨ i = 58 ∨ i = 59 ∨ i = 60 ∨ i = 61 ∨ i = 62 ∨ i = 63 ∨ i = 64 ∨ i = 65 ∨ i = 66 ∨ i = 67 ∨ i = 68 ∨ i = 69 ∨ i = 70 ∨ i = 71 ∨ i = 72 ∨ i = 73 ∨ i = 74 ∨ i = 75 ∨ i = 76 ∨ i = 77 ∨ i = 78 ∨ i = 79 ∨ i = 80 ∨ i = 81 ∨ i = 82 ∨ i = 83 ∨ i = 84 ∨ i = 85 ∨ i = 86 ∨ i = 87 ∨ i = 88 by omega) with rfl | rfl | rfl | rfl | rfl | rfl | rfl | rfl | rfl | rfl | rfl | rfl | rfl | rfl | rfl | rfl | rfl | rfl | rfl | rfl | rfl | rfl | rfl | rfl | rfl | rfl | rfl | rfl | rfl | rfl | rfl | rfl | rfl | rfl | rfl | rfl | rfl | rfl | rfl | rfl | rfl | rfl | rfl | rfl | rfl | rfl | rfl | rfl | rfl | rfl | rfl | rfl | rfl | rfl | rfl | rfl | rfl | rfl | rfl | rfl | rfl | rfl | rfl | rfl | rfl | rfl | rfl | rfl | rfl | rfl | rfl | rfl | rfl | rfl | rfl | rfl | rfl | rfl | rfl | rfl | rfl | rfl | rfl | rfl | rfl | rfl | rfl | rfl | rfl
  · cases cD_0.symm.trans h
  · cases cD_1.symm.trans h; exact va_one hK 0 rfl
  · cases cD_2.symm.trans h
  · cases cD_3.symm.trans h
  · cases cD_4.symm.trans h; exact va_one hK 1 rfl
  · cases cD_5.symm.trans h; exact va_one hK 2 rfl
  · cases cD_6.symm.trans h; exact va_one hK 3 rfl
  · cases cD_7.symm.trans h; exact va_one hK 4 rfl
  · cases cD_8.symm.trans h; exact va_one hK 5 rfl
  · cases cD_9.symm.trans h; exact va_one hK 6 rfl
  · cases cD_10.symm.trans h; exact va_one hK 7 rfl
  · cases cD_11.symm.trans h; exact va_one hK 8 rfl
  · cases cD_12.symm.trans h
  · cases cD_13.symm.trans h; exact va_one hK 9 rfl
  · cases cD_14.symm.trans h; exact va_one hK 10 rfl
  · cases cD_15.symm.trans h; exact va_one hK 11 rfl
  · cases cD_16.symm.trans h; exact va_one hK 12 rfl
  · cases cD_17.symm.trans h; exact va_one hK 13 rfl
  · cases cD_18.symm.trans h; exact va_one hK 14 rfl
  · cases cD_19.symm.trans h; exact va_one hK 15 rfl
  · cases cD_20.symm.trans h; exact va_one hK 16 rfl
  · cases cD_21.symm.trans h; exact va_one hK 17 rfl
  · cases cD_22.symm.trans h
  · cases cD_23.symm.trans h; exact va_one hK 41 rfl
  · cases cD_24.symm.trans h; exact va_one hK 42 rfl
  · cases cD_25.symm.trans h; exact va_one hK 43 rfl
  · cases cD_26.symm.trans h; exact va_one hK 44 rfl
  · cases cD_27.symm.trans h; exact va_one hK 45 rfl
  · cases cD_28.symm.trans h; exact va_one hK 46 rfl
  · cases cD_29.symm.trans h; exact va_one hK 47 rfl
  · cases cD_30.symm.trans h; exact va_one hK 48 rfl
  · cases cD_31.symm.trans h
  · cases cD_32.symm.trans h; exact va_one hK 49 rfl
  · cases cD_33.symm.trans h; exact va_one hK 50 rfl
  · cases cD_34.symm.trans h; exact va_one hK 51 rfl
  · cases cD_35.symm.trans h; exact va_one hK 52 rfl
  · cases cD_36.symm.trans h; exact va_one hK 53 rfl
  · cases cD_37.symm.trans h; exact va_one hK 54 rfl
  · cases cD_38.symm.trans h; exact va_one hK 55 rfl
  · cases cD_39.symm.trans h; exact va_one hK 56 rfl
  · cases cD_40.symm.trans h
  · cases cD_41.symm.trans h; exact va_one hK 57 rfl
  · cases cD_42.symm.trans h; exact va_one hK 58 rfl
  · cases cD_43.symm.trans h; exact va_one hK 59 rfl
  · cases cD_44.symm.trans h; exact va_one hK 60 rfl
  · cases cD_45.symm.trans h; exact va_one hK 61 rfl
  · cases cD_46.symm.trans h; exact va_one hK 62 rfl
  · cases cD_47.symm.trans h; exact va_one hK 63 rfl
  · cases cD_48.symm.trans h; exact va_one hK 64 rfl
  · cases cD_49.symm.trans h
  · cases cD_50.symm.trans h; exact va_one hK 65 rfl
  · cases cD_51.symm.trans h; exact va_one hK 66 rfl
  · cases cD_52.symm.trans h; exact va_one hK 67 rfl
  · cases cD_53.symm.trans h; exact va_one hK 68 rfl
  · cases cD_54.symm.trans h; exact va_one hK 69 rfl
  · cases cD_55.symm.trans h; exact va_one hK 70 rfl
  · cases cD_56.symm.trans h; exact va_one hK 71 rfl
  · cases cD_57.symm.trans h; exact va_one hK 72 rfl
  · cases cD_58.symm.trans h; exact va_one hK 18 rfl
  · cases cD_59.symm.trans h
  · cases cD_60.symm.trans h; exact va_one hK 19 rfl
  · cases cD_61.symm.trans h; exact va_one hK 20 rfl
  · cases cD_62.symm.trans h; exact va_one hK 21 rfl
  · cases cD_63.symm.trans h; exact va_one hK 22 rfl
  · cases cD_64.symm.trans h; exact va_one hK 23 rfl
  · cases cD_65.symm.trans h; exact va_one hK 24 rfl
  · cases cD_66.symm.trans h
  · cases cD_67.symm.trans h
  · cases cD_68.symm.trans h; exact va_one hK 25 rfl
  · cases cD_69.symm.trans h; exact va_one hK 26 rfl
  · cases cD_70.symm.trans h; exact va_one hK 27 rfl
  · cases cD_71.symm.trans h; exact va_one hK 28 rfl
  · cases cD_72.symm.trans h; exact va_one hK 29 rfl
  · cases cD_73.symm.trans h; exact va_one hK 30 rfl
  · cases cD_74.symm.trans h
  · cases cD_75.symm.trans h; exact va_one hK 31 rfl
  · cases cD_76.symm.trans h; exact va_one hK 32 rfl
  · cases cD_77.symm.trans h; exact va_one hK 33 rfl
  · cases cD_78.symm.trans h; exact va_one hK 34 rfl
  · cases cD_79.symm.trans h
  · cases cD_80.symm.trans h; exact va_one hK 35 rfl
  · cases cD_81.symm.trans h; exact va_one hK 36 rfl
  · cases cD_82.symm.trans h; exact va_one hK 37 rfl
  · cases cD_83.symm.trans h
  · cases cD_84.symm.trans h
  · cases cD_85.symm.trans h; exact va_one hK 38 rfl
  · cases cD_86.symm.trans h
  · cases cD_87.symm.trans h; exact va_one hK 39 rfl
  · cases cD_88.symm.trans h; exact va_one hK 40 rfl
theorem piD_inj : ∀ i, i < 89 → ∀ j, j < 89 → piD.getD i 0 = piD.getD j 0 → i = j := by decide +kernel
theorem piD_lt : ∀ i, i < 89 → piD.getD i 0 < 89 := by decide +kernel
def WM (a : Nat → Nat) (k : Nat → ClassId) : va_W := [((a 0), .inr (10, [.ref (a 1), .int 0, .int 0, .ref (a 2), .ref (a 3), .ref (a 4), .ref (a 5), .int 0, .int 0, .int 0, .int 0, .ref (a 6), .ref (a 7), .int 0, .int 0, .int 0, .int 0, .int 0, .int 0, .int 0, .ref (a 8), .int 0, .ref (a 9), .int 0, .ref (a 10), .ref (a 11), .ref (a 12), .ref (a 13), .ref (a 14), .ref (a 15), .ref (a 16), .ref (a 17), .long 1, .ref (a 18), .ref (a 19), .ref (a 20), .int 0, .ref (a 21), .ref (a 22), .int 0, .int 0, .int 0, .int 0, .ref (a 23), .ref (a 24), .ref (a 25), .ref (a 26)])), ((a 1), .inl ((k 1), 400, .inl (fun _ => 0))), ((a 2), .inl ((k 2), 2400, .inl (fun _ => 0))), ((a 3), .inl ((k 3), 7, .inl (fun _ => 0))), ((a 4), .inl ((k 4), 288, .inl (fun _ => 0))), ((a 5), .inl ((k 5), 6, .inl (fun _ => 0))), ((a 6), .inl ((k 6), 24, .inl (fun _ => 0))), ((a 7), .inl ((k 7), 48, .inl (fun _ => 0))), ((a 8), .inl ((k 8), 400, .inl (fun _ => 0))), ((a 9), .inl ((k 9), 64, .inr (.inl (fun _ => 0)))), ((a 10), .inl ((k 10), 8, .inr (.inl (fun _ => 0)))), ((a 11), .inl ((k 11), 134, .inl (fun _ => 0))), ((a 12), .inl ((k 12), 12, .inr (.inl (fun _ => 0)))), ((a 13), .inl ((k 13), 12, .inr (.inl (fun _ => 0)))), ((a 14), .inl ((k 14), 12, .inl (fun _ => 0))), ((a 15), .inl ((k 15), 12, .inr (.inl (fun _ => 0)))), ((a 16), .inl ((k 16), 12, .inr (.inl (fun _ => 0)))), ((a 17), .inl ((k 17), 12, .inl (fun _ => 0))), ((a 18), .inl ((k 18), 2000, .inr (.inl (fun _ => 0)))), ((a 19), .inl ((k 19), 2000, .inl (fun _ => 0))), ((a 20), .inl ((k 20), 2000, .inl (fun _ => 0))), ((a 21), .inl ((k 21), 8192, .inl (fun _ => 0))), ((a 22), .inl ((k 22), 24000, .inl (fun _ => 0))), ((a 23), .inl ((k 23), 12, .inr (.inl (fun _ => 0)))), ((a 24), .inl ((k 24), 536, .inl (fun _ => 0))), ((a 25), .inl ((k 25), 48, .inr (.inl (fun _ => 0)))), ((a 26), .inl ((k 26), 4, .inl (fun _ => 0)))]
def TM_ (k : Nat → ClassId) : List (ClassId × FieldType) := [((k 1), .byte), ((k 2), .int), ((k 3), .int), ((k 4), .int), ((k 5), .int), ((k 6), .int), ((k 7), .int), ((k 8), .int), ((k 9), .long), ((k 10), .long), ((k 11), .int), ((k 12), .long), ((k 13), .long), ((k 14), .int), ((k 15), .long), ((k 16), .long), ((k 17), .boolean), ((k 18), .long), ((k 19), .int), ((k 20), .int), ((k 21), .int), ((k 22), .int), ((k 23), .long), ((k 24), .int), ((k 25), .long), ((k 26), .boolean)]
def piM : List Nat := [0, 1, 2, 3, 4, 5, 6, 7, 8, 9, 10, 11, 12, 13, 14, 15, 16, 17, 18, 19, 20, 21, 22, 23, 24, 25, 26]
theorem WM_0 {a adK adV : Nat → Nat} {k : Nat → ClassId} {D : va_G} : (WM a k)[0]? = some (a 0, wC YM (a, adK, adV, k, D) (nuM 0) 0) := rfl
theorem WM_1 {a adK adV : Nat → Nat} {k : Nat → ClassId} {D : va_G} : (WM a k)[1]? = some (a 1, wC YM (a, adK, adV, k, D) (nuM 1) 1) := rfl
theorem WM_2 {a adK adV : Nat → Nat} {k : Nat → ClassId} {D : va_G} : (WM a k)[2]? = some (a 2, wC YM (a, adK, adV, k, D) (nuM 2) 2) := rfl
theorem WM_3 {a adK adV : Nat → Nat} {k : Nat → ClassId} {D : va_G} : (WM a k)[3]? = some (a 3, wC YM (a, adK, adV, k, D) (nuM 3) 3) := rfl
theorem WM_4 {a adK adV : Nat → Nat} {k : Nat → ClassId} {D : va_G} : (WM a k)[4]? = some (a 4, wC YM (a, adK, adV, k, D) (nuM 4) 4) := rfl
theorem WM_5 {a adK adV : Nat → Nat} {k : Nat → ClassId} {D : va_G} : (WM a k)[5]? = some (a 5, wC YM (a, adK, adV, k, D) (nuM 5) 5) := rfl
theorem WM_6 {a adK adV : Nat → Nat} {k : Nat → ClassId} {D : va_G} : (WM a k)[6]? = some (a 6, wC YM (a, adK, adV, k, D) (nuM 6) 6) := rfl
theorem WM_7 {a adK adV : Nat → Nat} {k : Nat → ClassId} {D : va_G} : (WM a k)[7]? = some (a 7, wC YM (a, adK, adV, k, D) (nuM 7) 7) := rfl
theorem WM_8 {a adK adV : Nat → Nat} {k : Nat → ClassId} {D : va_G} : (WM a k)[8]? = some (a 8, wC YM (a, adK, adV, k, D) (nuM 8) 8) := rfl
theorem WM_9 {a adK adV : Nat → Nat} {k : Nat → ClassId} {D : va_G} : (WM a k)[9]? = some (a 9, wC YM (a, adK, adV, k, D) (nuM 9) 9) := rfl
theorem WM_10 {a adK adV : Nat → Nat} {k : Nat → ClassId} {D : va_G} : (WM a k)[10]? = some (a 10, wC YM (a, adK, adV, k, D) (nuM 10) 10) := rfl
theorem WM_11 {a adK adV : Nat → Nat} {k : Nat → ClassId} {D : va_G} : (WM a k)[11]? = some (a 11, wC YM (a, adK, adV, k, D) (nuM 11) 11) := rfl
theorem WM_12 {a adK adV : Nat → Nat} {k : Nat → ClassId} {D : va_G} : (WM a k)[12]? = some (a 12, wC YM (a, adK, adV, k, D) (nuM 12) 12) := rfl
theorem WM_13 {a adK adV : Nat → Nat} {k : Nat → ClassId} {D : va_G} : (WM a k)[13]? = some (a 13, wC YM (a, adK, adV, k, D) (nuM 13) 13) := rfl
theorem WM_14 {a adK adV : Nat → Nat} {k : Nat → ClassId} {D : va_G} : (WM a k)[14]? = some (a 14, wC YM (a, adK, adV, k, D) (nuM 14) 14) := rfl
theorem WM_15 {a adK adV : Nat → Nat} {k : Nat → ClassId} {D : va_G} : (WM a k)[15]? = some (a 15, wC YM (a, adK, adV, k, D) (nuM 15) 15) := rfl
theorem WM_16 {a adK adV : Nat → Nat} {k : Nat → ClassId} {D : va_G} : (WM a k)[16]? = some (a 16, wC YM (a, adK, adV, k, D) (nuM 16) 16) := rfl
theorem WM_17 {a adK adV : Nat → Nat} {k : Nat → ClassId} {D : va_G} : (WM a k)[17]? = some (a 17, wC YM (a, adK, adV, k, D) (nuM 17) 17) := rfl
theorem WM_18 {a adK adV : Nat → Nat} {k : Nat → ClassId} {D : va_G} : (WM a k)[18]? = some (a 18, wC YM (a, adK, adV, k, D) (nuM 18) 18) := rfl
theorem WM_19 {a adK adV : Nat → Nat} {k : Nat → ClassId} {D : va_G} : (WM a k)[19]? = some (a 19, wC YM (a, adK, adV, k, D) (nuM 19) 19) := rfl
theorem WM_20 {a adK adV : Nat → Nat} {k : Nat → ClassId} {D : va_G} : (WM a k)[20]? = some (a 20, wC YM (a, adK, adV, k, D) (nuM 20) 20) := rfl
theorem WM_21 {a adK adV : Nat → Nat} {k : Nat → ClassId} {D : va_G} : (WM a k)[21]? = some (a 21, wC YM (a, adK, adV, k, D) (nuM 21) 21) := rfl
theorem WM_22 {a adK adV : Nat → Nat} {k : Nat → ClassId} {D : va_G} : (WM a k)[22]? = some (a 22, wC YM (a, adK, adV, k, D) (nuM 22) 22) := rfl
theorem WM_23 {a adK adV : Nat → Nat} {k : Nat → ClassId} {D : va_G} : (WM a k)[23]? = some (a 23, wC YM (a, adK, adV, k, D) (nuM 23) 23) := rfl
theorem WM_24 {a adK adV : Nat → Nat} {k : Nat → ClassId} {D : va_G} : (WM a k)[24]? = some (a 24, wC YM (a, adK, adV, k, D) (nuM 24) 24) := rfl
theorem WM_25 {a adK adV : Nat → Nat} {k : Nat → ClassId} {D : va_G} : (WM a k)[25]? = some (a 25, wC YM (a, adK, adV, k, D) (nuM 25) 25) := rfl
theorem WM_26 {a adK adV : Nat → Nat} {k : Nat → ClassId} {D : va_G} : (WM a k)[26]? = some (a 26, wC YM (a, adK, adV, k, D) (nuM 26) 26) := rfl
set_option maxRecDepth 100000 in
set_option maxHeartbeats 4000000 in
theorem WM_all {a adK adV : Nat → Nat} {k : Nat → ClassId} {D : va_G} : ∀ i, i < YM.1 → (WM a k)[piM.getD i 0]? = some (((a, adK, adV, k, D) : Gd).1 i, wC YM (a, adK, adV, k, D) (nuM i) i) := by
  intro i hi
  have hi : i < 27 := hi
  rcases (show i = 0 ∨ i = 1 ∨ i = 2 ∨ i = 3 ∨ i = 4 ∨ i = 5 ∨ i = 6 ∨ i = 7 ∨ i = 8 ∨ i = 9 ∨ i = 10 ∨ i = 11 ∨ i = 12 ∨ i = 13 ∨ i = 14 ∨ i = 15 ∨ i = 16 ∨ i = 17 ∨ i = 18 ∨ i = 19 ∨ i = 20 ∨ i = 21 ∨ i = 22 ∨ i = 23 ∨ i = 24 ∨ i = 25 ∨ i = 26 by omega) with rfl | rfl | rfl | rfl | rfl | rfl | rfl | rfl | rfl | rfl | rfl | rfl | rfl | rfl | rfl | rfl | rfl | rfl | rfl | rfl | rfl | rfl | rfl | rfl | rfl | rfl | rfl
  · exact WM_0
  · exact WM_1
  · exact WM_2
  · exact WM_3
  · exact WM_4
  · exact WM_5
  · exact WM_6
  · exact WM_7
  · exact WM_8
  · exact WM_9
  · exact WM_10
  · exact WM_11
  · exact WM_12
  · exact WM_13
  · exact WM_14
  · exact WM_15
  · exact WM_16
  · exact WM_17
  · exact WM_18
  · exact WM_19
  · exact WM_20
  · exact WM_21
  · exact WM_22
  · exact WM_23
  · exact WM_24
  · exact WM_25
  · exact WM_26
set_option maxRecDepth 100000 in
set_option maxHeartbeats 4000000 in
theorem KM_all {k : Nat → ClassId} {D : va_G} {s : State} (hK : va_K D classes (TM_ k) s) : ∀ i ty n, i < YM.1 → YM.2.1 i = .inl (ty, n) → va_K D classes [(k i, ty)] s := by
  intro i ty n hi h
  have hi : i < 27 := hi
  rcases (show i = 0 ∨ i = 1 ∨ i = 2 ∨ i = 3 ∨ i = 4 ∨ i = 5 ∨ i = 6 ∨ i = 7 ∨ i = 8 ∨ i = 9 ∨ i = 10 ∨ i = 11 ∨ i = 12 ∨ i = 13 ∨ i = 14 ∨ i = 15 ∨ i = 16 ∨ i = 17 ∨ i = 18 ∨ i = 19 ∨ i = 20 ∨ i = 21 ∨ i = 22 ∨ i = 23 ∨ i = 24 ∨ i = 25 ∨ i = 26 by omega) with rfl | rfl | rfl | rfl | rfl | rfl | rfl | rfl | rfl | rfl | rfl | rfl | rfl | rfl | rfl | rfl | rfl | rfl | rfl | rfl | rfl | rfl | rfl | rfl | rfl | rfl | rfl
  · cases cM_0.symm.trans h
  · cases cM_1.symm.trans h; exact va_one hK 0 rfl
  · cases cM_2.symm.trans h; exact va_one hK 1 rfl
  · cases cM_3.symm.trans h; exact va_one hK 2 rfl
  · cases cM_4.symm.trans h; exact va_one hK 3 rfl
  · cases cM_5.symm.trans h; exact va_one hK 4 rfl
  · cases cM_6.symm.trans h; exact va_one hK 5 rfl
  · cases cM_7.symm.trans h; exact va_one hK 6 rfl
  · cases cM_8.symm.trans h; exact va_one hK 7 rfl
  · cases cM_9.symm.trans h; exact va_one hK 8 rfl
  · cases cM_10.symm.trans h; exact va_one hK 9 rfl
  · cases cM_11.symm.trans h; exact va_one hK 10 rfl
  · cases cM_12.symm.trans h; exact va_one hK 11 rfl
  · cases cM_13.symm.trans h; exact va_one hK 12 rfl
  · cases cM_14.symm.trans h; exact va_one hK 13 rfl
  · cases cM_15.symm.trans h; exact va_one hK 14 rfl
  · cases cM_16.symm.trans h; exact va_one hK 15 rfl
  · cases cM_17.symm.trans h; exact va_one hK 16 rfl
  · cases cM_18.symm.trans h; exact va_one hK 17 rfl
  · cases cM_19.symm.trans h; exact va_one hK 18 rfl
  · cases cM_20.symm.trans h; exact va_one hK 19 rfl
  · cases cM_21.symm.trans h; exact va_one hK 20 rfl
  · cases cM_22.symm.trans h; exact va_one hK 21 rfl
  · cases cM_23.symm.trans h; exact va_one hK 22 rfl
  · cases cM_24.symm.trans h; exact va_one hK 23 rfl
  · cases cM_25.symm.trans h; exact va_one hK 24 rfl
  · cases cM_26.symm.trans h; exact va_one hK 25 rfl
theorem piM_inj : ∀ i, i < 27 → ∀ j, j < 27 → piM.getD i 0 = piM.getD j 0 → i = j := by decide +kernel
theorem piM_lt : ∀ i, i < 27 → piM.getD i 0 < 27 := by decide +kernel
