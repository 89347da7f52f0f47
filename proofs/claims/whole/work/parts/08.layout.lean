/-! the cells of the two objects -/
def fkD0 : Nat → Option (Option Nat) := fun k => match k with
  | 0 => some (some 1)
  | 1 => none
  | 2 => some (some 2)
  | 3 => some (some 3)
  | 4 => some (some 12)
  | 5 => some (some 21)
  | 6 => some (some 58)
  | 7 => some (some 59)
  | 8 => some (some 66)
  | 9 => some (some 74)
  | 10 => some (some 79)
  | 11 => some (some 83)
  | 12 => some (some 84)
  | 13 => some (some 86)
  | _ => some (some 88)
def fkD2 : Nat → Option (Option Nat) := fun k => match k with
  | 0 => some (some 1)
  | 1 => none
  | 2 => none
  | _ => none
def fkD3 : Nat → Option (Option Nat) := fun k => match k with
  | 0 => none
  | 1 => some (some 4)
  | 2 => some (some 5)
  | 3 => none
  | 4 => none
  | 5 => none
  | 6 => some (some 6)
  | 7 => some (some 7)
  | 8 => some (some 8)
  | 9 => some (some 9)
  | 10 => none
  | 11 => none
  | 12 => none
  | 13 => some (some 10)
  | 14 => none
  | 15 => some (some 11)
  | _ => none
def fkD12 : Nat → Option (Option Nat) := fun k => match k with
  | 0 => none
  | 1 => some (some 13)
  | 2 => some (some 14)
  | 3 => none
  | 4 => none
  | 5 => none
  | 6 => some (some 15)
  | 7 => some (some 16)
  | 8 => some (some 17)
  | 9 => some (some 18)
  | 10 => none
  | 11 => none
  | 12 => none
  | 13 => some (some 19)
  | 14 => none
  | 15 => some (some 20)
  | _ => none
def fkD22 : Nat → Option (Option Nat) := fun k => match k with
  | 0 => none
  | 1 => some (some 23)
  | 2 => some (some 24)
  | 3 => none
  | 4 => none
  | 5 => none
  | 6 => some (some 25)
  | 7 => some (some 26)
  | 8 => some (some 27)
  | 9 => some (some 28)
  | 10 => none
  | 11 => none
  | 12 => none
  | 13 => some (some 29)
  | 14 => none
  | 15 => some (some 30)
  | _ => none
def fkD31 : Nat → Option (Option Nat) := fun k => match k with
  | 0 => none
  | 1 => some (some 32)
  | 2 => some (some 33)
  | 3 => none
  | 4 => none
  | 5 => none
  | 6 => some (some 34)
  | 7 => some (some 35)
  | 8 => some (some 36)
  | 9 => some (some 37)
  | 10 => none
  | 11 => none
  | 12 => none
  | 13 => some (some 38)
  | 14 => none
  | 15 => some (some 39)
  | _ => none
def fkD40 : Nat → Option (Option Nat) := fun k => match k with
  | 0 => none
  | 1 => some (some 41)
  | 2 => some (some 42)
  | 3 => none
  | 4 => none
  | 5 => none
  | 6 => some (some 43)
  | 7 => some (some 44)
  | 8 => some (some 45)
  | 9 => some (some 46)
  | 10 => none
  | 11 => none
  | 12 => none
  | 13 => some (some 47)
  | 14 => none
  | 15 => some (some 48)
  | _ => none
def fkD49 : Nat → Option (Option Nat) := fun k => match k with
  | 0 => none
  | 1 => some (some 50)
  | 2 => some (some 51)
  | 3 => none
  | 4 => none
  | 5 => none
  | 6 => some (some 52)
  | 7 => some (some 53)
  | 8 => some (some 54)
  | 9 => some (some 55)
  | 10 => none
  | 11 => none
  | 12 => none
  | 13 => some (some 56)
  | 14 => none
  | 15 => some (some 57)
  | _ => none
def fkD59 : Nat → Option (Option Nat) := fun k => match k with
  | 0 => some (some 3)
  | 1 => some (some 60)
  | 2 => some (some 61)
  | 3 => some (some 62)
  | 4 => some (some 63)
  | 5 => some (some 64)
  | 6 => some (some 65)
  | 7 => none
  | _ => none
def fkD66 : Nat → Option (Option Nat) := fun k => match k with
  | 0 => some (some 3)
  | 1 => some (some 67)
  | 2 => none
  | _ => none
def fkD67 : Nat → Option (Option Nat) := fun k => match k with
  | 0 => some (some 3)
  | 1 => some (some 68)
  | 2 => some (some 69)
  | 3 => some (some 70)
  | 4 => some (some 71)
  | 5 => some (some 72)
  | 6 => some (some 73)
  | 7 => none
  | _ => none
def fkD74 : Nat → Option (Option Nat) := fun k => match k with
  | 0 => some (some 3)
  | 1 => some (some 59)
  | 2 => some (some 75)
  | 3 => some (some 76)
  | 4 => some (some 77)
  | 5 => some (some 78)
  | 6 => none
  | 7 => none
  | 8 => none
  | 9 => none
  | 10 => none
  | 11 => none
  | 12 => none
  | 13 => none
  | 14 => some none
  | _ => some none
def fkD79 : Nat → Option (Option Nat) := fun k => match k with
  | 0 => some (some 59)
  | 1 => none
  | 2 => some (some 80)
  | 3 => some (some 81)
  | 4 => some (some 82)
  | _ => none
def fkD83 : Nat → Option (Option Nat) := fun k => match k with
  | 0 => some (some 2)
  | _ => some (some 12)
def fkD84 : Nat → Option (Option Nat) := fun k => match k with
  | 0 => some (some 2)
  | 1 => some (some 79)
  | 2 => some (some 85)
  | 3 => none
  | 4 => none
  | 5 => none
  | 6 => none
  | 7 => none
  | _ => none
def fkD86 : Nat → Option (Option Nat) := fun k => match k with
  | 0 => some (some 59)
  | 1 => some (some 79)
  | 2 => none
  | 3 => none
  | 4 => none
  | _ => some (some 87)
def layD : Nat → (FieldType × Nat) ⊕ (Nat × Nat × (Nat → Option (Option Nat))) := fun i => match i with
  | 0 => .inr (9, 15, fkD0)
  | 1 => .inl (.int, 400)
  | 2 => .inr (7, 4, fkD2)
  | 3 => .inr (6, 17, fkD3)
  | 4 => .inl (.int, 12)
  | 5 => .inl (.int, 12)
  | 6 => .inl (.int, 16)
  | 7 => .inl (.int, 16)
  | 8 => .inl (.int, 16)
  | 9 => .inl (.long, 12)
  | 10 => .inl (.int, 12)
  | 11 => .inl (.int, 40)
  | 12 => .inr (6, 17, fkD12)
  | 13 => .inl (.int, 12)
  | 14 => .inl (.int, 12)
  | 15 => .inl (.int, 16)
  | 16 => .inl (.int, 16)
  | 17 => .inl (.int, 16)
  | 18 => .inl (.long, 12)
  | 19 => .inl (.int, 12)
  | 20 => .inl (.int, 40)
  | 21 => .inl (.object "DoorsOnCogs$Scene", 4)
  | 22 => .inr (6, 17, fkD22)
  | 23 => .inl (.int, 12)
  | 24 => .inl (.int, 12)
  | 25 => .inl (.int, 16)
  | 26 => .inl (.int, 16)
  | 27 => .inl (.int, 16)
  | 28 => .inl (.long, 12)
  | 29 => .inl (.int, 12)
  | 30 => .inl (.int, 40)
  | 31 => .inr (6, 17, fkD31)
  | 32 => .inl (.int, 12)
  | 33 => .inl (.int, 12)
  | 34 => .inl (.int, 16)
  | 35 => .inl (.int, 16)
  | 36 => .inl (.int, 16)
  | 37 => .inl (.long, 12)
  | 38 => .inl (.int, 12)
  | 39 => .inl (.int, 40)
  | 40 => .inr (6, 17, fkD40)
  | 41 => .inl (.int, 12)
  | 42 => .inl (.int, 12)
  | 43 => .inl (.int, 16)
  | 44 => .inl (.int, 16)
  | 45 => .inl (.int, 16)
  | 46 => .inl (.long, 12)
  | 47 => .inl (.int, 12)
  | 48 => .inl (.int, 40)
  | 49 => .inr (6, 17, fkD49)
  | 50 => .inl (.int, 12)
  | 51 => .inl (.int, 12)
  | 52 => .inl (.int, 16)
  | 53 => .inl (.int, 16)
  | 54 => .inl (.int, 16)
  | 55 => .inl (.long, 12)
  | 56 => .inl (.int, 12)
  | 57 => .inl (.int, 40)
  | 58 => .inl (.boolean, 4)
  | 59 => .inr (2, 9, fkD59)
  | 60 => .inl (.int, 12)
  | 61 => .inl (.long, 12)
  | 62 => .inl (.long, 12)
  | 63 => .inl (.long, 12)
  | 64 => .inl (.long, 144)
  | 65 => .inl (.long, 12)
  | 66 => .inr (0, 4, fkD66)
  | 67 => .inr (2, 9, fkD67)
  | 68 => .inl (.int, 12)
  | 69 => .inl (.long, 12)
  | 70 => .inl (.long, 12)
  | 71 => .inl (.long, 12)
  | 72 => .inl (.long, 144)
  | 73 => .inl (.long, 12)
  | 74 => .inr (3, 16, fkD74)
  | 75 => .inl (.long, 2000)
  | 76 => .inl (.int, 2000)
  | 77 => .inl (.int, 2000)
  | 78 => .inl (.int, 4096)
  | 79 => .inr (4, 6, fkD79)
  | 80 => .inl (.int, 2406)
  | 81 => .inl (.int, 6)
  | 82 => .inl (.long, 400)
  | 83 => .inr (8, 2, fkD83)
  | 84 => .inr (5, 9, fkD84)
  | 85 => .inl (.int, 400)
  | 86 => .inr (1, 6, fkD86)
  | 87 => .inl (.long, 12)
  | _ => .inl (.int, 60)
abbrev YD : Ly := (89, layD, fun i j => 22 + 9 * j)
theorem cD_0 : YD.2.1 0 = .inr (9, 15, fkD0) := rfl
theorem cD_1 : YD.2.1 1 = .inl (.int, 400) := rfl
theorem cD_2 : YD.2.1 2 = .inr (7, 4, fkD2) := rfl
theorem cD_3 : YD.2.1 3 = .inr (6, 17, fkD3) := rfl
theorem cD_4 : YD.2.1 4 = .inl (.int, 12) := rfl
theorem cD_5 : YD.2.1 5 = .inl (.int, 12) := rfl
theorem cD_6 : YD.2.1 6 = .inl (.int, 16) := rfl
theorem cD_7 : YD.2.1 7 = .inl (.int, 16) := rfl
theorem cD_8 : YD.2.1 8 = .inl (.int, 16) := rfl
theorem cD_9 : YD.2.1 9 = .inl (.long, 12) := rfl
theorem cD_10 : YD.2.1 10 = .inl (.int, 12) := rfl
theorem cD_11 : YD.2.1 11 = .inl (.int, 40) := rfl
theorem cD_12 : YD.2.1 12 = .inr (6, 17, fkD12) := rfl
theorem cD_13 : YD.2.1 13 = .inl (.int, 12) := rfl
theorem cD_14 : YD.2.1 14 = .inl (.int, 12) := rfl
theorem cD_15 : YD.2.1 15 = .inl (.int, 16) := rfl
theorem cD_16 : YD.2.1 16 = .inl (.int, 16) := rfl
theorem cD_17 : YD.2.1 17 = .inl (.int, 16) := rfl
theorem cD_18 : YD.2.1 18 = .inl (.long, 12) := rfl
theorem cD_19 : YD.2.1 19 = .inl (.int, 12) := rfl
theorem cD_20 : YD.2.1 20 = .inl (.int, 40) := rfl
theorem cD_21 : YD.2.1 21 = .inl (.object "DoorsOnCogs$Scene", 4) := rfl
theorem cD_22 : YD.2.1 22 = .inr (6, 17, fkD22) := rfl
theorem cD_23 : YD.2.1 23 = .inl (.int, 12) := rfl
theorem cD_24 : YD.2.1 24 = .inl (.int, 12) := rfl
theorem cD_25 : YD.2.1 25 = .inl (.int, 16) := rfl
theorem cD_26 : YD.2.1 26 = .inl (.int, 16) := rfl
theorem cD_27 : YD.2.1 27 = .inl (.int, 16) := rfl
theorem cD_28 : YD.2.1 28 = .inl (.long, 12) := rfl
theorem cD_29 : YD.2.1 29 = .inl (.int, 12) := rfl
theorem cD_30 : YD.2.1 30 = .inl (.int, 40) := rfl
theorem cD_31 : YD.2.1 31 = .inr (6, 17, fkD31) := rfl
theorem cD_32 : YD.2.1 32 = .inl (.int, 12) := rfl
theorem cD_33 : YD.2.1 33 = .inl (.int, 12) := rfl
theorem cD_34 : YD.2.1 34 = .inl (.int, 16) := rfl
theorem cD_35 : YD.2.1 35 = .inl (.int, 16) := rfl
theorem cD_36 : YD.2.1 36 = .inl (.int, 16) := rfl
theorem cD_37 : YD.2.1 37 = .inl (.long, 12) := rfl
theorem cD_38 : YD.2.1 38 = .inl (.int, 12) := rfl
theorem cD_39 : YD.2.1 39 = .inl (.int, 40) := rfl
theorem cD_40 : YD.2.1 40 = .inr (6, 17, fkD40) := rfl
theorem cD_41 : YD.2.1 41 = .inl (.int, 12) := rfl
theorem cD_42 : YD.2.1 42 = .inl (.int, 12) := rfl
theorem cD_43 : YD.2.1 43 = .inl (.int, 16) := rfl
theorem cD_44 : YD.2.1 44 = .inl (.int, 16) := rfl
theorem cD_45 : YD.2.1 45 = .inl (.int, 16) := rfl
theorem cD_46 : YD.2.1 46 = .inl (.long, 12) := rfl
theorem cD_47 : YD.2.1 47 = .inl (.int, 12) := rfl
theorem cD_48 : YD.2.1 48 = .inl (.int, 40) := rfl
theorem cD_49 : YD.2.1 49 = .inr (6, 17, fkD49) := rfl
theorem cD_50 : YD.2.1 50 = .inl (.int, 12) := rfl
theorem cD_51 : YD.2.1 51 = .inl (.int, 12) := rfl
theorem cD_52 : YD.2.1 52 = .inl (.int, 16) := rfl
theorem cD_53 : YD.2.1 53 = .inl (.int, 16) := rfl
theorem cD_54 : YD.2.1 54 = .inl (.int, 16) := rfl
theorem cD_55 : YD.2.1 55 = .inl (.long, 12) := rfl
theorem cD_56 : YD.2.1 56 = .inl (.int, 12) := rfl
theorem cD_57 : YD.2.1 57 = .inl (.int, 40) := rfl
theorem cD_58 : YD.2.1 58 = .inl (.boolean, 4) := rfl
theorem cD_59 : YD.2.1 59 = .inr (2, 9, fkD59) := rfl
theorem cD_60 : YD.2.1 60 = .inl (.int, 12) := rfl
theorem cD_61 : YD.2.1 61 = .inl (.long, 12) := rfl
theorem cD_62 : YD.2.1 62 = .inl (.long, 12) := rfl
theorem cD_63 : YD.2.1 63 = .inl (.long, 12) := rfl
theorem cD_64 : YD.2.1 64 = .inl (.long, 144) := rfl
theorem cD_65 : YD.2.1 65 = .inl (.long, 12) := rfl
theorem cD_66 : YD.2.1 66 = .inr (0, 4, fkD66) := rfl
theorem cD_67 : YD.2.1 67 = .inr (2, 9, fkD67) := rfl
theorem cD_68 : YD.2.1 68 = .inl (.int, 12) := rfl
theorem cD_69 : YD.2.1 69 = .inl (.long, 12) := rfl
theorem cD_70 : YD.2.1 70 = .inl (.long, 12) := rfl
theorem cD_71 : YD.2.1 71 = .inl (.long, 12) := rfl
theorem cD_72 : YD.2.1 72 = .inl (.long, 144) := rfl
theorem cD_73 : YD.2.1 73 = .inl (.long, 12) := rfl
theorem cD_74 : YD.2.1 74 = .inr (3, 16, fkD74) := rfl
theorem cD_75 : YD.2.1 75 = .inl (.long, 2000) := rfl
theorem cD_76 : YD.2.1 76 = .inl (.int, 2000) := rfl
theorem cD_77 : YD.2.1 77 = .inl (.int, 2000) := rfl
theorem cD_78 : YD.2.1 78 = .inl (.int, 4096) := rfl
theorem cD_79 : YD.2.1 79 = .inr (4, 6, fkD79) := rfl
theorem cD_80 : YD.2.1 80 = .inl (.int, 2406) := rfl
theorem cD_81 : YD.2.1 81 = .inl (.int, 6) := rfl
theorem cD_82 : YD.2.1 82 = .inl (.long, 400) := rfl
theorem cD_83 : YD.2.1 83 = .inr (8, 2, fkD83) := rfl
theorem cD_84 : YD.2.1 84 = .inr (5, 9, fkD84) := rfl
theorem cD_85 : YD.2.1 85 = .inl (.int, 400) := rfl
theorem cD_86 : YD.2.1 86 = .inr (1, 6, fkD86) := rfl
theorem cD_87 : YD.2.1 87 = .inl (.long, 12) := rfl
theorem cD_88 : YD.2.1 88 = .inl (.int, 60) := rfl
def fkM0 : Nat → Option (Option Nat) := fun k => match k with
  | 0 => some (some 1)
  | 1 => none
  | 2 => none
  | 3 => some (some 2)
  | 4 => some (some 3)
  | 5 => some (some 4)
  | 6 => some (some 5)
  | 7 => none
  | 8 => none
  | 9 => none
  | 10 => none
  | 11 => some (some 6)
  | 12 => some (some 7)
  | 13 => none
  | 14 => none
  | 15 => none
  | 16 => none
  | 17 => none
  | 18 => none
  | 19 => none
  | 20 => some (some 8)
  | 21 => none
  | 22 => some (some 9)
  | 23 => none
  | 24 => some (some 10)
  | 25 => some (some 11)
  | 26 => some (some 12)
  | 27 => some (some 13)
  | 28 => some (some 14)
  | 29 => some (some 15)
  | 30 => some (some 16)
  | 31 => some (some 17)
  | 32 => some none
  | 33 => some (some 18)
  | 34 => some (some 19)
  | 35 => some (some 20)
  | 36 => none
  | 37 => some (some 21)
  | 38 => some (some 22)
  | 39 => none
  | 40 => none
  | 41 => none
  | 42 => none
  | 43 => some (some 23)
  | 44 => some (some 24)
  | 45 => some (some 25)
  | _ => some (some 26)
def layM : Nat → (FieldType × Nat) ⊕ (Nat × Nat × (Nat → Option (Option Nat))) := fun i => match i with
  | 0 => .inr (10, 47, fkM0)
  | 1 => .inl (.byte, 400)
  | 2 => .inl (.int, 2400)
  | 3 => .inl (.int, 7)
  | 4 => .inl (.int, 288)
  | 5 => .inl (.int, 6)
  | 6 => .inl (.int, 24)
  | 7 => .inl (.int, 48)
  | 8 => .inl (.int, 400)
  | 9 => .inl (.long, 64)
  | 10 => .inl (.long, 8)
  | 11 => .inl (.int, 134)
  | 12 => .inl (.long, 12)
  | 13 => .inl (.long, 12)
  | 14 => .inl (.int, 12)
  | 15 => .inl (.long, 12)
  | 16 => .inl (.long, 12)
  | 17 => .inl (.boolean, 12)
  | 18 => .inl (.long, 2000)
  | 19 => .inl (.int, 2000)
  | 20 => .inl (.int, 2000)
  | 21 => .inl (.int, 8192)
  | 22 => .inl (.int, 24000)
  | 23 => .inl (.long, 12)
  | 24 => .inl (.int, 536)
  | 25 => .inl (.long, 48)
  | _ => .inl (.boolean, 4)
abbrev YM : Ly := (27, layM, fun _ _ => 0)
theorem cM_0 : YM.2.1 0 = .inr (10, 47, fkM0) := rfl
theorem cM_1 : YM.2.1 1 = .inl (.byte, 400) := rfl
theorem cM_2 : YM.2.1 2 = .inl (.int, 2400) := rfl
theorem cM_3 : YM.2.1 3 = .inl (.int, 7) := rfl
theorem cM_4 : YM.2.1 4 = .inl (.int, 288) := rfl
theorem cM_5 : YM.2.1 5 = .inl (.int, 6) := rfl
theorem cM_6 : YM.2.1 6 = .inl (.int, 24) := rfl
theorem cM_7 : YM.2.1 7 = .inl (.int, 48) := rfl
theorem cM_8 : YM.2.1 8 = .inl (.int, 400) := rfl
theorem cM_9 : YM.2.1 9 = .inl (.long, 64) := rfl
theorem cM_10 : YM.2.1 10 = .inl (.long, 8) := rfl
theorem cM_11 : YM.2.1 11 = .inl (.int, 134) := rfl
theorem cM_12 : YM.2.1 12 = .inl (.long, 12) := rfl
theorem cM_13 : YM.2.1 13 = .inl (.long, 12) := rfl
theorem cM_14 : YM.2.1 14 = .inl (.int, 12) := rfl
theorem cM_15 : YM.2.1 15 = .inl (.long, 12) := rfl
theorem cM_16 : YM.2.1 16 = .inl (.long, 12) := rfl
theorem cM_17 : YM.2.1 17 = .inl (.boolean, 12) := rfl
theorem cM_18 : YM.2.1 18 = .inl (.long, 2000) := rfl
theorem cM_19 : YM.2.1 19 = .inl (.int, 2000) := rfl
theorem cM_20 : YM.2.1 20 = .inl (.int, 2000) := rfl
theorem cM_21 : YM.2.1 21 = .inl (.int, 8192) := rfl
theorem cM_22 : YM.2.1 22 = .inl (.int, 24000) := rfl
theorem cM_23 : YM.2.1 23 = .inl (.long, 12) := rfl
theorem cM_24 : YM.2.1 24 = .inl (.int, 536) := rfl
theorem cM_25 : YM.2.1 25 = .inl (.long, 48) := rfl
theorem cM_26 : YM.2.1 26 = .inl (.boolean, 4) := rfl
