-- part 05: forms of contracts; kinds and constant references (printed by wip/whole/gen/gen05.py)
theorem SH_1 : SH 1 = (0, 6) := rfl
theorem SH_2 : SH 2 = (3, 12) := rfl
theorem SH_3 : SH 3 = (0, 0) := rfl
theorem SH_4 : SH 4 = (0, 5) := rfl
theorem SH_5 : SH 5 = (1, 200) := rfl
theorem SH_6 : SH 6 = (1, 200) := rfl
theorem SH_7 : SH 7 = (1, 200) := rfl
theorem SH_8 : SH 8 = (0, 4) := rfl
theorem SH_9 : SH 9 = (1, 300) := rfl
theorem SH_10 : SH 10 = (1, 300) := rfl
theorem SH_11 : SH 11 = (1, 300) := rfl
theorem SH_12 : SH 12 = (1, 51) := rfl
theorem SH_13 : SH 13 = (0, 4) := rfl
theorem SH_14 : SH 14 = (1, 300) := rfl
theorem SH_15 : SH 15 = (1, 300) := rfl
theorem SH_16 : SH 16 = (1, 300) := rfl
theorem SH_17 : SH 17 = (1, 51) := rfl
theorem SH_18 : SH 18 = (0, 3) := rfl
theorem SH_19 : SH 19 = (1, 300) := rfl
theorem SH_20 : SH 20 = (1, 100) := rfl
theorem SH_21 : SH 21 = (1, 3) := rfl
theorem SH_22 : SH 22 = (1, 3) := rfl
theorem SH_23 : SH 23 = (4, 5) := rfl
theorem SH_24 : SH 24 = (5, 8) := rfl
theorem SH_25 : SH 25 = (1, 720) := rfl
theorem SH_26 : SH 26 = (1, 601) := rfl
theorem SH_27 : SH 27 = (1, 51) := rfl
theorem SH_28 : SH 28 = (0, 0) := rfl
theorem SH_29 : SH 29 = (0, 0) := rfl
theorem SH_30 : SH 30 = (0, 0) := rfl
theorem SH_31 : SH 31 = (0, 0) := rfl
theorem SH_32 : SH 32 = (0, 0) := rfl
theorem SH_33 : SH 33 = (0, 0) := rfl
theorem SH_34 : SH 34 = (0, 0) := rfl
theorem SH_35 : SH 35 = (0, 0) := rfl
theorem SH_36 : SH 36 = (0, 0) := rfl
theorem SH_37 : SH 37 = (0, 0) := rfl
theorem SH_38 : SH 38 = (0, 0) := rfl
theorem SH_39 : SH 39 = (0, 0) := rfl
theorem SH_40 : SH 40 = (0, 2) := rfl
theorem SH_41 : SH 41 = (1, 100) := rfl
theorem SH_42 : SH 42 = (0, 2) := rfl
theorem SH_43 : SH 43 = (1, 100) := rfl
theorem SH_44 : SH 44 = (0, 2) := rfl
theorem SH_45 : SH 45 = (1, 100) := rfl
theorem SH_46 : SH 46 = (0, 2) := rfl
theorem SH_47 : SH 47 = (1, 100) := rfl
theorem SH_48 : SH 48 = (0, 2) := rfl
theorem SH_49 : SH 49 = (1, 100) := rfl
theorem SH_50 : SH 50 = (0, 1) := rfl
theorem SH_51 : SH 51 = (0, 1) := rfl
theorem SH_52 : SH 52 = (0, 1) := rfl
theorem SH_53 : SH 53 = (0, 1) := rfl
theorem SH_54 : SH 54 = (0, 1) := rfl
theorem SH_55 : SH 55 = (0, 1) := rfl
theorem SH_56 : SH 56 = (0, 1) := rfl
theorem SH_57 : SH 57 = (0, 1) := rfl
theorem SH_58 : SH 58 = (0, 7) := rfl
theorem SH_59 : SH 59 = (1, 12) := rfl
theorem SH_60 : SH 60 = (1, 12) := rfl
theorem SH_61 : SH 61 = (1, 12) := rfl
theorem SH_62 : SH 62 = (1, 12) := rfl
theorem SH_63 : SH 63 = (1, 12) := rfl
theorem SH_64 : SH 64 = (1, 200) := rfl
theorem SH_65 : SH 65 = (1, 200) := rfl
theorem SH_66 : SH 66 = (2, 200) := rfl
theorem SH_67 : SH 67 = (1, 300) := rfl
theorem SH_68 : SH 68 = (1, 300) := rfl
theorem SH_69 : SH 69 = (1, 300) := rfl
theorem SH_70 : SH 70 = (1, 52) := rfl
theorem SH_71 : SH 71 = (1, 300) := rfl
theorem SH_72 : SH 72 = (1, 500) := rfl
theorem SH_73 : SH 73 = (1, 5) := rfl
theorem SH_74 : SH 74 = (1, 100) := rfl
theorem SH_75 : SH 75 = (1, 300) := rfl
theorem SH_76 : SH 76 = (1, 300) := rfl
theorem SH_77 : SH 77 = (1, 300) := rfl
theorem SH_78 : SH 78 = (1, 12) := rfl
theorem SH_79 : SH 79 = (2, 12) := rfl
theorem SH_80 : SH 80 = (1, 8) := rfl
theorem SH_81 : SH 81 = (1, 8) := rfl
theorem SH_82 : SH 82 = (1, 8) := rfl
theorem SH_83 : SH 83 = (1, 8) := rfl
theorem SH_84 : SH 84 = (1, 8) := rfl
theorem SH_85 : SH 85 = (1, 8) := rfl
theorem SH_86 : SH 86 = (2, 12) := rfl
theorem SH_87 : SH 87 = (2, 12) := rfl
theorem SH_88 : SH 88 = (2, 12) := rfl
theorem SH_89 : SH 89 = (1, 12) := rfl
theorem SH_90 : SH 90 = (1, 12) := rfl
theorem SH_91 : SH 91 = (1, 12) := rfl
theorem SH_92 : SH 92 = (1, 12) := rfl
theorem SH_93 : SH 93 = (1, 720) := rfl
theorem SH_94 : SH 94 = (1, 601) := rfl
theorem SH_bell {i : Int} (h : 0 ≤ i ∧ i < 12) : SH (28 + i.toNat) = (0, 0) := by
  have key : ∀ j, j < 12 → SH (28 + j) = (0, 0) := by decide +kernel
  exact key _ (by omega)
theorem SH_pat {i : Int} (h : 0 ≤ i ∧ i < 5) : SH (40 + 2 * i.toNat) = (0, 2) ∧ SH (40 + 2 * i.toNat + 1) = (1, 100) := by
  have key : ∀ j, j < 5 → SH (40 + 2 * j) = (0, 2) ∧ SH (40 + 2 * j + 1) = (1, 100) := by decide +kernel
  exact key _ (by omega)
theorem SH_ent {j : Nat} (h : j < 8) : SH (50 + j) = (0, 1) := by
  have key : ∀ j, j < 8 → SH (50 + j) = (0, 1) := by decide +kernel
  exact key _ h
def R0L : List (Nat × Int × Nat) := [(1, 0, 2), (1, 1, 3), (1, 2, 4), (1, 3, 8), (1, 4, 13), (1, 5, 18), (1, 6, 23), (1, 7, 24), (1, 8, 25), (1, 9, 26), (1, 10, 27), (4, 0, 5), (4, 1, 6), (4, 2, 7), (8, 0, 9), (8, 1, 10), (8, 2, 11), (8, 3, 12), (13, 0, 14), (13, 1, 15), (13, 2, 16), (13, 3, 17), (18, 0, 19), (18, 2, 20), (18, 9, 21), (18, 10, 22), (40, 0, 41), (42, 0, 43), (44, 0, 45), (46, 0, 47), (48, 0, 49), (58, 1, 59), (58, 2, 60), (58, 3, 61), (58, 4, 62), (58, 5, 63), (58, 10, 64), (58, 11, 65), (58, 12, 66), (58, 14, 67), (58, 15, 68), (58, 16, 69), (58, 17, 70), (58, 19, 71), (58, 20, 72), (58, 21, 73), (58, 22, 74), (58, 31, 75), (58, 32, 76), (58, 33, 77), (58, 34, 78), (58, 35, 79), (58, 36, 80), (58, 37, 81), (58, 38, 82), (58, 39, 83), (58, 40, 84), (58, 41, 85), (58, 44, 86), (58, 45, 87), (58, 46, 88), (58, 47, 89), (58, 48, 90), (58, 49, 91), (58, 50, 92), (58, 51, 93), (58, 52, 94)]
/-- the references that never change behind the constructors -/
def Rok (mr : aR) : Prop := (∀ q ∈ R0L, mr q.1 q.2.1 = some q.2.2) ∧ (∀ i : Int, 0 ≤ i → i < 12 → mr 2 i = some (28 + i.toNat)) ∧ (∀ i : Int, 0 ≤ i → i < 5 → mr 23 i = some (40 + 2 * i.toNat))
theorem rk_1_0 {mr : aR} (h : Rok mr) : mr 1 0 = some 2 := h.1 (1, 0, 2) (List.mem_of_getElem? (i := 0) rfl)
theorem rk_1_1 {mr : aR} (h : Rok mr) : mr 1 1 = some 3 := h.1 (1, 1, 3) (List.mem_of_getElem? (i := 1) rfl)
theorem rk_1_2 {mr : aR} (h : Rok mr) : mr 1 2 = some 4 := h.1 (1, 2, 4) (List.mem_of_getElem? (i := 2) rfl)
theorem rk_1_3 {mr : aR} (h : Rok mr) : mr 1 3 = some 8 := h.1 (1, 3, 8) (List.mem_of_getElem? (i := 3) rfl)
theorem rk_1_4 {mr : aR} (h : Rok mr) : mr 1 4 = some 13 := h.1 (1, 4, 13) (List.mem_of_getElem? (i := 4) rfl)
theorem rk_1_5 {mr : aR} (h : Rok mr) : mr 1 5 = some 18 := h.1 (1, 5, 18) (List.mem_of_getElem? (i := 5) rfl)
theorem rk_1_6 {mr : aR} (h : Rok mr) : mr 1 6 = some 23 := h.1 (1, 6, 23) (List.mem_of_getElem? (i := 6) rfl)
theorem rk_1_7 {mr : aR} (h : Rok mr) : mr 1 7 = some 24 := h.1 (1, 7, 24) (List.mem_of_getElem? (i := 7) rfl)
theorem rk_1_8 {mr : aR} (h : Rok mr) : mr 1 8 = some 25 := h.1 (1, 8, 25) (List.mem_of_getElem? (i := 8) rfl)
theorem rk_1_9 {mr : aR} (h : Rok mr) : mr 1 9 = some 26 := h.1 (1, 9, 26) (List.mem_of_getElem? (i := 9) rfl)
theorem rk_1_10 {mr : aR} (h : Rok mr) : mr 1 10 = some 27 := h.1 (1, 10, 27) (List.mem_of_getElem? (i := 10) rfl)
theorem rk_4_0 {mr : aR} (h : Rok mr) : mr 4 0 = some 5 := h.1 (4, 0, 5) (List.mem_of_getElem? (i := 11) rfl)
theorem rk_4_1 {mr : aR} (h : Rok mr) : mr 4 1 = some 6 := h.1 (4, 1, 6) (List.mem_of_getElem? (i := 12) rfl)
theorem rk_4_2 {mr : aR} (h : Rok mr) : mr 4 2 = some 7 := h.1 (4, 2, 7) (List.mem_of_getElem? (i := 13) rfl)
theorem rk_8_0 {mr : aR} (h : Rok mr) : mr 8 0 = some 9 := h.1 (8, 0, 9) (List.mem_of_getElem? (i := 14) rfl)
theorem rk_8_1 {mr : aR} (h : Rok mr) : mr 8 1 = some 10 := h.1 (8, 1, 10) (List.mem_of_getElem? (i := 15) rfl)
theorem rk_8_2 {mr : aR} (h : Rok mr) : mr 8 2 = some 11 := h.1 (8, 2, 11) (List.mem_of_getElem? (i := 16) rfl)
theorem rk_8_3 {mr : aR} (h : Rok mr) : mr 8 3 = some 12 := h.1 (8, 3, 12) (List.mem_of_getElem? (i := 17) rfl)
theorem rk_13_0 {mr : aR} (h : Rok mr) : mr 13 0 = some 14 := h.1 (13, 0, 14) (List.mem_of_getElem? (i := 18) rfl)
theorem rk_13_1 {mr : aR} (h : Rok mr) : mr 13 1 = some 15 := h.1 (13, 1, 15) (List.mem_of_getElem? (i := 19) rfl)
theorem rk_13_2 {mr : aR} (h : Rok mr) : mr 13 2 = some 16 := h.1 (13, 2, 16) (List.mem_of_getElem? (i := 20) rfl)
theorem rk_13_3 {mr : aR} (h : Rok mr) : mr 13 3 = some 17 := h.1 (13, 3, 17) (List.mem_of_getElem? (i := 21) rfl)
theorem rk_18_0 {mr : aR} (h : Rok mr) : mr 18 0 = some 19 := h.1 (18, 0, 19) (List.mem_of_getElem? (i := 22) rfl)
theorem rk_18_2 {mr : aR} (h : Rok mr) : mr 18 2 = some 20 := h.1 (18, 2, 20) (List.mem_of_getElem? (i := 23) rfl)
theorem rk_18_9 {mr : aR} (h : Rok mr) : mr 18 9 = some 21 := h.1 (18, 9, 21) (List.mem_of_getElem? (i := 24) rfl)
theorem rk_18_10 {mr : aR} (h : Rok mr) : mr 18 10 = some 22 := h.1 (18, 10, 22) (List.mem_of_getElem? (i := 25) rfl)
theorem rk_40_0 {mr : aR} (h : Rok mr) : mr 40 0 = some 41 := h.1 (40, 0, 41) (List.mem_of_getElem? (i := 26) rfl)
theorem rk_42_0 {mr : aR} (h : Rok mr) : mr 42 0 = some 43 := h.1 (42, 0, 43) (List.mem_of_getElem? (i := 27) rfl)
theorem rk_44_0 {mr : aR} (h : Rok mr) : mr 44 0 = some 45 := h.1 (44, 0, 45) (List.mem_of_getElem? (i := 28) rfl)
theorem rk_46_0 {mr : aR} (h : Rok mr) : mr 46 0 = some 47 := h.1 (46, 0, 47) (List.mem_of_getElem? (i := 29) rfl)
theorem rk_48_0 {mr : aR} (h : Rok mr) : mr 48 0 = some 49 := h.1 (48, 0, 49) (List.mem_of_getElem? (i := 30) rfl)
theorem rk_58_1 {mr : aR} (h : Rok mr) : mr 58 1 = some 59 := h.1 (58, 1, 59) (List.mem_of_getElem? (i := 31) rfl)
theorem rk_58_2 {mr : aR} (h : Rok mr) : mr 58 2 = some 60 := h.1 (58, 2, 60) (List.mem_of_getElem? (i := 32) rfl)
theorem rk_58_3 {mr : aR} (h : Rok mr) : mr 58 3 = some 61 := h.1 (58, 3, 61) (List.mem_of_getElem? (i := 33) rfl)
theorem rk_58_4 {mr : aR} (h : Rok mr) : mr 58 4 = some 62 := h.1 (58, 4, 62) (List.mem_of_getElem? (i := 34) rfl)
theorem rk_58_5 {mr : aR} (h : Rok mr) : mr 58 5 = some 63 := h.1 (58, 5, 63) (List.mem_of_getElem? (i := 35) rfl)
theorem rk_58_10 {mr : aR} (h : Rok mr) : mr 58 10 = some 64 := h.1 (58, 10, 64) (List.mem_of_getElem? (i := 36) rfl)
theorem rk_58_11 {mr : aR} (h : Rok mr) : mr 58 11 = some 65 := h.1 (58, 11, 65) (List.mem_of_getElem? (i := 37) rfl)
theorem rk_58_12 {mr : aR} (h : Rok mr) : mr 58 12 = some 66 := h.1 (58, 12, 66) (List.mem_of_getElem? (i := 38) rfl)
theorem rk_58_14 {mr : aR} (h : Rok mr) : mr 58 14 = some 67 := h.1 (58, 14, 67) (List.mem_of_getElem? (i := 39) rfl)
theorem rk_58_15 {mr : aR} (h : Rok mr) : mr 58 15 = some 68 := h.1 (58, 15, 68) (List.mem_of_getElem? (i := 40) rfl)
theorem rk_58_16 {mr : aR} (h : Rok mr) : mr 58 16 = some 69 := h.1 (58, 16, 69) (List.mem_of_getElem? (i := 41) rfl)
theorem rk_58_17 {mr : aR} (h : Rok mr) : mr 58 17 = some 70 := h.1 (58, 17, 70) (List.mem_of_getElem? (i := 42) rfl)
theorem rk_58_19 {mr : aR} (h : Rok mr) : mr 58 19 = some 71 := h.1 (58, 19, 71) (List.mem_of_getElem? (i := 43) rfl)
theorem rk_58_20 {mr : aR} (h : Rok mr) : mr 58 20 = some 72 := h.1 (58, 20, 72) (List.mem_of_getElem? (i := 44) rfl)
theorem rk_58_21 {mr : aR} (h : Rok mr) : mr 58 21 = some 73 := h.1 (58, 21, 73) (List.mem_of_getElem? (i := 45) rfl)
theorem rk_58_22 {mr : aR} (h : Rok mr) : mr 58 22 = some 74 := h.1 (58, 22, 74) (List.mem_of_getElem? (i := 46) rfl)
theorem rk_58_31 {mr : aR} (h : Rok mr) : mr 58 31 = some 75 := h.1 (58, 31, 75) (List.mem_of_getElem? (i := 47) rfl)
theorem rk_58_32 {mr : aR} (h : Rok mr) : mr 58 32 = some 76 := h.1 (58, 32, 76) (List.mem_of_getElem? (i := 48) rfl)
theorem rk_58_33 {mr : aR} (h : Rok mr) : mr 58 33 = some 77 := h.1 (58, 33, 77) (List.mem_of_getElem? (i := 49) rfl)
theorem rk_58_34 {mr : aR} (h : Rok mr) : mr 58 34 = some 78 := h.1 (58, 34, 78) (List.mem_of_getElem? (i := 50) rfl)
theorem rk_58_35 {mr : aR} (h : Rok mr) : mr 58 35 = some 79 := h.1 (58, 35, 79) (List.mem_of_getElem? (i := 51) rfl)
theorem rk_58_36 {mr : aR} (h : Rok mr) : mr 58 36 = some 80 := h.1 (58, 36, 80) (List.mem_of_getElem? (i := 52) rfl)
theorem rk_58_37 {mr : aR} (h : Rok mr) : mr 58 37 = some 81 := h.1 (58, 37, 81) (List.mem_of_getElem? (i := 53) rfl)
theorem rk_58_38 {mr : aR} (h : Rok mr) : mr 58 38 = some 82 := h.1 (58, 38, 82) (List.mem_of_getElem? (i := 54) rfl)
theorem rk_58_39 {mr : aR} (h : Rok mr) : mr 58 39 = some 83 := h.1 (58, 39, 83) (List.mem_of_getElem? (i := 55) rfl)
theorem rk_58_40 {mr : aR} (h : Rok mr) : mr 58 40 = some 84 := h.1 (58, 40, 84) (List.mem_of_getElem? (i := 56) rfl)
theorem rk_58_41 {mr : aR} (h : Rok mr) : mr 58 41 = some 85 := h.1 (58, 41, 85) (List.mem_of_getElem? (i := 57) rfl)
theorem rk_58_44 {mr : aR} (h : Rok mr) : mr 58 44 = some 86 := h.1 (58, 44, 86) (List.mem_of_getElem? (i := 58) rfl)
theorem rk_58_45 {mr : aR} (h : Rok mr) : mr 58 45 = some 87 := h.1 (58, 45, 87) (List.mem_of_getElem? (i := 59) rfl)
theorem rk_58_46 {mr : aR} (h : Rok mr) : mr 58 46 = some 88 := h.1 (58, 46, 88) (List.mem_of_getElem? (i := 60) rfl)
theorem rk_58_47 {mr : aR} (h : Rok mr) : mr 58 47 = some 89 := h.1 (58, 47, 89) (List.mem_of_getElem? (i := 61) rfl)
theorem rk_58_48 {mr : aR} (h : Rok mr) : mr 58 48 = some 90 := h.1 (58, 48, 90) (List.mem_of_getElem? (i := 62) rfl)
theorem rk_58_49 {mr : aR} (h : Rok mr) : mr 58 49 = some 91 := h.1 (58, 49, 91) (List.mem_of_getElem? (i := 63) rfl)
theorem rk_58_50 {mr : aR} (h : Rok mr) : mr 58 50 = some 92 := h.1 (58, 50, 92) (List.mem_of_getElem? (i := 64) rfl)
theorem rk_58_51 {mr : aR} (h : Rok mr) : mr 58 51 = some 93 := h.1 (58, 51, 93) (List.mem_of_getElem? (i := 65) rfl)
theorem rk_58_52 {mr : aR} (h : Rok mr) : mr 58 52 = some 94 := h.1 (58, 52, 94) (List.mem_of_getElem? (i := 66) rfl)
theorem rk_pat {mr : aR} (h : Rok mr) {i : Int} (hi : 0 ≤ i ∧ i < 5) : mr (40 + 2 * i.toNat) 0 = some (40 + 2 * i.toNat + 1) := by
  have hc : i = 0 ∨ i = 1 ∨ i = 2 ∨ i = 3 ∨ i = 4 := by omega
  rcases hc with rfl | rfl | rfl | rfl | rfl
  · exact rk_40_0 h
  · exact rk_42_0 h
  · exact rk_44_0 h
  · exact rk_46_0 h
  · exact rk_48_0 h
/-- one of the two schedules -/
def isS (a : Nat) : Prop := a = 8 ∨ a = 13
theorem isS_SH {a : Nat} (h : isS a) : SH a = (0, 4) ∧ SH (a + 1) = (1, 300) ∧ SH (a + 2) = (1, 300) ∧ SH (a + 3) = (1, 300) ∧ SH (a + 4) = (1, 51) := by
  rcases h with rfl | rfl <;> exact ⟨rfl, rfl, rfl, rfl, rfl⟩
theorem isS_ok {a : Nat} (h : isS a) : (0 < a ∧ a ≤ 94) ∧ (0 < a + 1 ∧ a + 1 ≤ 94) ∧ (0 < a + 2 ∧ a + 2 ≤ 94) ∧ (0 < a + 3 ∧ a + 3 ≤ 94) ∧ (0 < a + 4 ∧ a + 4 ≤ 94) := by
  rcases h with rfl | rfl <;> decide
theorem isS_rf {a : Nat} (h : isS a) {mr : aR} (hR : Rok mr) : mr a 0 = some (a + 1) ∧ mr a 1 = some (a + 2) ∧ mr a 2 = some (a + 3) ∧ mr a 3 = some (a + 4) := by
  rcases h with rfl | rfl
  · exact ⟨rk_8_0 hR, rk_8_1 hR, rk_8_2 hR, rk_8_3 hR⟩
  · exact ⟨rk_13_0 hR, rk_13_1 hR, rk_13_2 hR, rk_13_3 hR⟩
theorem aup_eq {α : Type} (m : Nat → Int → α) (a : Nat) (k : Int) (v : α) : aup m a k v a k = v := by simp [aup]
theorem aup_k {α : Type} {m : Nat → Int → α} {a x : Nat} {k j : Int} {v : α} (h : j ≠ k) : aup m a k v x j = m x j := by simp [aup, h]
theorem aup_a {α : Type} {m : Nat → Int → α} {a x : Nat} {k j : Int} {v : α} (h : x ≠ a) : aup m a k v x j = m x j := by simp [aup, h]
/-! forms of posts: an int (memory may change), an int (nothing changes), no answer -/
def Pi (mr : aR) (P : Int → aM → Prop) : Option Int → Nat → aM → aR → Prop := fun v n' mi' mr' => ∃ r, v = some r ∧ n' = 94 ∧ mr' = mr ∧ P r mi'
def Pp (mi : aM) (mr : aR) (P : Int → Prop) : Option Int → Nat → aM → aR → Prop := fun v n' mi' mr' => ∃ r, v = some r ∧ n' = 94 ∧ mr' = mr ∧ mi' = mi ∧ P r
def Pv (mr : aR) (P : aM → Prop) : Option Int → Nat → aM → aR → Prop := fun v n' mi' mr' => v = none ∧ n' = 94 ∧ mr' = mr ∧ P mi'
/-- general: references may change -/
def Pg (P : Int → aM → aR → Prop) : Option Int → Nat → aM → aR → Prop := fun v n' mi' mr' => ∃ r, v = some r ∧ n' = 94 ∧ P r mi' mr'
def Pgv (P : aM → aR → Prop) : Option Int → Nat → aM → aR → Prop := fun v n' mi' mr' => v = none ∧ n' = 94 ∧ P mi' mr'
abbrev SPg (y : MethodName) (cc : ByteArray) (nL : Nat) (rt : Option FieldType) (d : Nat) (av : List Value) (mi : aM) (mr : aR) (Po : Option Int → Nat → aM → aR → Prop) : Prop := SP y cc nL rt d 0 0 94 av mi mr Po
abbrev AWm (own : String) (cc : ByteArray) (nL d : Nat) (Po : Option Int → Nat → aM → aR → Prop) (pc : Nat) (lv : List (Nat × Value)) (st : List Value) (mi : aM) (mr : aR) : Prop := AW own cc nL d false 0 0 none Po 94 pc lv st mi mr 0 0
theorem SPg.int {y : MethodName} {own : String} {cc : ByteArray} {nL d : Nat} {av : List Value} {mi : aM} {mr : aR} {P : Int → aM → Prop} (hown : y.cls = own) (hpl : plainName y.cls = true) (hargs : (lg_sl av).length ≤ nL) (h : AWm own cc nL d (Pi mr P) 0 (lv_args 0 av) [] mi mr) : SPg y cc nL (some .int) d av mi mr (Pi mr P) :=
  SP.of false hown (fun h => by cases h) hpl hargs (Or.inl ⟨rfl, fun _ _ _ ⟨_, h, _⟩ => by cases h⟩) h
theorem SPg.pure {y : MethodName} {own : String} {cc : ByteArray} {nL d : Nat} {av : List Value} {mi : aM} {mr : aR} {P : Int → Prop} (hown : y.cls = own) (hpl : plainName y.cls = true) (hargs : (lg_sl av).length ≤ nL) (h : AWm own cc nL d (Pp mi mr P) 0 (lv_args 0 av) [] mi mr) : SPg y cc nL (some .int) d av mi mr (Pp mi mr P) :=
  SP.of false hown (fun h => by cases h) hpl hargs (Or.inl ⟨rfl, fun _ _ _ ⟨_, h, _⟩ => by cases h⟩) h
theorem SPg.bool {y : MethodName} {own : String} {cc : ByteArray} {nL d : Nat} {av : List Value} {mi : aM} {mr : aR} {P : Int → aM → Prop} (hown : y.cls = own) (hpl : plainName y.cls = true) (hargs : (lg_sl av).length ≤ nL) (hb : ∀ r m, P r m → r = 0 ∨ r = 1) (h : AWm own cc nL d (Pi mr P) 0 (lv_args 0 av) [] mi mr) : SPg y cc nL (some .boolean) d av mi mr (Pi mr P) :=
  SP.of false hown (fun h => by cases h) hpl hargs (Or.inr (Or.inl ⟨rfl, fun _ _ _ ⟨_, h, _⟩ => by (cases h), fun v n' m' r' ⟨r, h1, h2, h3, h4⟩ => by cases h1; exact hb _ _ h4⟩)) h
theorem SPg.boolp {y : MethodName} {own : String} {cc : ByteArray} {nL d : Nat} {av : List Value} {mi : aM} {mr : aR} {P : Int → Prop} (hown : y.cls = own) (hpl : plainName y.cls = true) (hargs : (lg_sl av).length ≤ nL) (hb : ∀ r, P r → r = 0 ∨ r = 1) (h : AWm own cc nL d (Pp mi mr P) 0 (lv_args 0 av) [] mi mr) : SPg y cc nL (some .boolean) d av mi mr (Pp mi mr P) :=
  SP.of false hown (fun h => by cases h) hpl hargs (Or.inr (Or.inl ⟨rfl, fun _ _ _ ⟨_, h, _⟩ => by (cases h), fun v n' m' r' ⟨r, h1, h2, h3, h4, h5⟩ => by cases h1; exact hb _ h5⟩)) h
theorem SPg.void {y : MethodName} {own : String} {cc : ByteArray} {nL d : Nat} {av : List Value} {mi : aM} {mr : aR} {P : aM → Prop} (hown : y.cls = own) (hpl : plainName y.cls = true) (hargs : (lg_sl av).length ≤ nL) (h : AWm own cc nL d (Pv mr P) 0 (lv_args 0 av) [] mi mr) : SPg y cc nL none d av mi mr (Pv mr P) :=
  SP.of false hown (fun h => by cases h) hpl hargs (Or.inr (Or.inr ⟨rfl, fun _ _ _ _ ⟨h, _⟩ => by cases h⟩)) h
theorem SPg.gint {y : MethodName} {own : String} {cc : ByteArray} {nL d : Nat} {av : List Value} {mi : aM} {mr : aR} {P : Int → aM → aR → Prop} (hown : y.cls = own) (hpl : plainName y.cls = true) (hargs : (lg_sl av).length ≤ nL) (h : AWm own cc nL d (Pg P) 0 (lv_args 0 av) [] mi mr) : SPg y cc nL (some .int) d av mi mr (Pg P) :=
  SP.of false hown (fun h => by cases h) hpl hargs (Or.inl ⟨rfl, fun _ _ _ ⟨_, h, _⟩ => by cases h⟩) h
theorem SPg.gvoid {y : MethodName} {own : String} {cc : ByteArray} {nL d : Nat} {av : List Value} {mi : aM} {mr : aR} {P : aM → aR → Prop} (hown : y.cls = own) (hpl : plainName y.cls = true) (hargs : (lg_sl av).length ≤ nL) (h : AWm own cc nL d (Pgv P) 0 (lv_args 0 av) [] mi mr) : SPg y cc nL none d av mi mr (Pgv P) :=
  SP.of false hown (fun h => by cases h) hpl hargs (Or.inr (Or.inr ⟨rfl, fun _ _ _ _ ⟨h, _⟩ => by cases h⟩)) h
section AWS
variable {own : String} {cc : ByteArray} {nL d : Nat} {ini : Bool} {kc ks : Nat} {xo : Option (Nat × (Int → Int))} {Po : Option Int → Nat → aM → aR → Prop} {pc : Nat} {lv : List (Nat × Value)} {st : List Value} {mi : aM} {mr : aR} {ck sk : Nat}
theorem aw_getIv {idx ci f a n : Nat} {x : Int} (hf : aFld own idx ci f) (hs : SH a = (0, ci)) (ha : 0 < a ∧ a ≤ n) (hr : (fty ci f).isReference = false) (hx : mi a f = x) (hd : decode cc pc = .ok (.getfield idx, 3)) (k : -2147483648 ≤ x ∧ x ≤ 2147483647 → AW own cc nL d ini kc ks xo Po n (pc + 3) lv (iI x :: st) mi mr ck sk) : AW own cc nL d ini kc ks xo Po n pc lv (.ref a :: st) mi mr ck sk := by
  subst hx
  exact aw_getI hf hs ha hr hd k
theorem aw_ialdv {a z n : Nat} {i x : Int} (hs : SH a = (1, z)) (ha : 0 < a ∧ a ≤ n) (hi : 0 ≤ i ∧ i < z) (hx : mi a i = x) (hd : decode cc pc = .ok (.iaload, 1)) (k : -2147483648 ≤ x ∧ x ≤ 2147483647 → AW own cc nL d ini kc ks xo Po n (pc + 1) lv (iI x :: st) mi mr ck sk) : AW own cc nL d ini kc ks xo Po n pc lv (iI i :: .ref a :: st) mi mr ck sk := by
  subst hx
  exact aw_iald hs ha hi hd k
theorem aw_zaldv {a z n : Nat} {i x : Int} (hs : SH a = (2, z)) (ha : 0 < a ∧ a ≤ n) (hi : 0 ≤ i ∧ i < z) (hx : mi a i = x) (hd : decode cc pc = .ok (.baload, 1)) (k : -2147483648 ≤ x ∧ x ≤ 2147483647 → AW own cc nL d ini kc ks xo Po n (pc + 1) lv (iI x :: st) mi mr ck sk) : AW own cc nL d ini kc ks xo Po n pc lv (iI i :: .ref a :: st) mi mr ck sk := by
  subst hx
  exact aw_zald hs ha hi hd k
theorem aw_cVi {y : MethodName} {ccg : ByteArray} {nLg dg idx na : Nat} {rtg : Option FieldType} {a ci N : Nat} {F : u_T} {As st0 : List Value} {P : Int → aM → Prop} (hcal : aCalV own idx y ccg nLg rtg na) (hM : SPg y ccg nLg rtg dg (.ref a :: As) mi mr (Pi mr P)) (hs : SH a = (0, ci)) (hc : vwCl[ci]? = some (y.cls, F, N)) (ha : 0 < a ∧ a ≤ 94) (hna : As.length = na) (hst9 : st0 = As.reverse ++ .ref a :: st) (hr : (st.map fun v => v.category).sum ≤ 8) (hdd : dg + 1 ≤ d) (hnl : nLg ≤ 40) (hck : ck ≤ kc) (hsk : sk ≤ ks) (hd : decode cc pc = .ok (.invokevirtual idx, 3)) (k : ∀ r mi', P r mi' → AW own cc nL d ini kc ks xo Po 94 (pc + 3) lv (iI r :: st) mi' mr ck sk) : AW own cc nL d ini kc ks xo Po 94 pc lv st0 mi mr ck sk := by
  refine aw_callV hcal hM hs hc ha hna hst9 hr hdd hnl (by omega) (by omega) hd (fun v n' mi' mr' h => ?_)
  obtain ⟨r, h1, h2, h3, h4⟩ := h
  subst h1 h2 h3
  exact k r mi' h4
theorem aw_cVp {y : MethodName} {ccg : ByteArray} {nLg dg idx na : Nat} {rtg : Option FieldType} {a ci N : Nat} {F : u_T} {As st0 : List Value} {P : Int → Prop} (hcal : aCalV own idx y ccg nLg rtg na) (hM : SPg y ccg nLg rtg dg (.ref a :: As) mi mr (Pp mi mr P)) (hs : SH a = (0, ci)) (hc : vwCl[ci]? = some (y.cls, F, N)) (ha : 0 < a ∧ a ≤ 94) (hna : As.length = na) (hst9 : st0 = As.reverse ++ .ref a :: st) (hr : (st.map fun v => v.category).sum ≤ 8) (hdd : dg + 1 ≤ d) (hnl : nLg ≤ 40) (hck : ck ≤ kc) (hsk : sk ≤ ks) (hd : decode cc pc = .ok (.invokevirtual idx, 3)) (k : ∀ r, P r → AW own cc nL d ini kc ks xo Po 94 (pc + 3) lv (iI r :: st) mi mr ck sk) : AW own cc nL d ini kc ks xo Po 94 pc lv st0 mi mr ck sk := by
  refine aw_callV hcal hM hs hc ha hna hst9 hr hdd hnl (by omega) (by omega) hd (fun v n' mi' mr' h => ?_)
  obtain ⟨r, h1, h2, h3, h4, h5⟩ := h
  subst h1 h2 h3 h4
  exact k r h5
theorem aw_cVv {y : MethodName} {ccg : ByteArray} {nLg dg idx na : Nat} {rtg : Option FieldType} {a ci N : Nat} {F : u_T} {As st0 : List Value} {P : aM → Prop} (hcal : aCalV own idx y ccg nLg rtg na) (hM : SPg y ccg nLg rtg dg (.ref a :: As) mi mr (Pv mr P)) (hs : SH a = (0, ci)) (hc : vwCl[ci]? = some (y.cls, F, N)) (ha : 0 < a ∧ a ≤ 94) (hna : As.length = na) (hst9 : st0 = As.reverse ++ .ref a :: st) (hr : (st.map fun v => v.category).sum ≤ 8) (hdd : dg + 1 ≤ d) (hnl : nLg ≤ 40) (hck : ck ≤ kc) (hsk : sk ≤ ks) (hd : decode cc pc = .ok (.invokevirtual idx, 3)) (k : ∀ mi', P mi' → AW own cc nL d ini kc ks xo Po 94 (pc + 3) lv (st) mi' mr ck sk) : AW own cc nL d ini kc ks xo Po 94 pc lv st0 mi mr ck sk := by
  refine aw_callV hcal hM hs hc ha hna hst9 hr hdd hnl (by omega) (by omega) hd (fun v n' mi' mr' h => ?_)
  obtain ⟨h1, h2, h3, h4⟩ := h
  subst h1 h2 h3
  exact k mi' h4
theorem aw_cVg {y : MethodName} {ccg : ByteArray} {nLg dg idx na : Nat} {rtg : Option FieldType} {a ci N : Nat} {F : u_T} {As st0 : List Value} {P : Int → aM → aR → Prop} (hcal : aCalV own idx y ccg nLg rtg na) (hM : SPg y ccg nLg rtg dg (.ref a :: As) mi mr (Pg P)) (hs : SH a = (0, ci)) (hc : vwCl[ci]? = some (y.cls, F, N)) (ha : 0 < a ∧ a ≤ 94) (hna : As.length = na) (hst9 : st0 = As.reverse ++ .ref a :: st) (hr : (st.map fun v => v.category).sum ≤ 8) (hdd : dg + 1 ≤ d) (hnl : nLg ≤ 40) (hck : ck ≤ kc) (hsk : sk ≤ ks) (hd : decode cc pc = .ok (.invokevirtual idx, 3)) (k : ∀ r mi' mr', P r mi' mr' → AW own cc nL d ini kc ks xo Po 94 (pc + 3) lv (iI r :: st) mi' mr' ck sk) : AW own cc nL d ini kc ks xo Po 94 pc lv st0 mi mr ck sk := by
  refine aw_callV hcal hM hs hc ha hna hst9 hr hdd hnl (by omega) (by omega) hd (fun v n' mi' mr' h => ?_)
  obtain ⟨r, h1, h2, h4⟩ := h
  subst h1 h2
  exact k r mi' mr' h4
theorem aw_cVw {y : MethodName} {ccg : ByteArray} {nLg dg idx na : Nat} {rtg : Option FieldType} {a ci N : Nat} {F : u_T} {As st0 : List Value} {P : aM → aR → Prop} (hcal : aCalV own idx y ccg nLg rtg na) (hM : SPg y ccg nLg rtg dg (.ref a :: As) mi mr (Pgv P)) (hs : SH a = (0, ci)) (hc : vwCl[ci]? = some (y.cls, F, N)) (ha : 0 < a ∧ a ≤ 94) (hna : As.length = na) (hst9 : st0 = As.reverse ++ .ref a :: st) (hr : (st.map fun v => v.category).sum ≤ 8) (hdd : dg + 1 ≤ d) (hnl : nLg ≤ 40) (hck : ck ≤ kc) (hsk : sk ≤ ks) (hd : decode cc pc = .ok (.invokevirtual idx, 3)) (k : ∀ mi' mr', P mi' mr' → AW own cc nL d ini kc ks xo Po 94 (pc + 3) lv (st) mi' mr' ck sk) : AW own cc nL d ini kc ks xo Po 94 pc lv st0 mi mr ck sk := by
  refine aw_callV hcal hM hs hc ha hna hst9 hr hdd hnl (by omega) (by omega) hd (fun v n' mi' mr' h => ?_)
  obtain ⟨h1, h2, h4⟩ := h
  subst h1 h2
  exact k mi' mr' h4
theorem aw_cSi {y : MethodName} {ccg : ByteArray} {nLg dg idx na : Nat} {rtg : Option FieldType} {As st0 : List Value} {P : Int → aM → Prop} (hcal : aCalS own idx y ccg nLg rtg na) (hM : SPg y ccg nLg rtg dg As mi mr (Pi mr P)) (hna : As.length = na) (hst9 : st0 = As.reverse ++ st) (hr : (st.map fun v => v.category).sum ≤ 8) (hdd : dg + 1 ≤ d) (hnl : nLg ≤ 40) (hck : ck ≤ kc) (hsk : sk ≤ ks) (hd : decode cc pc = .ok (.invokestatic idx, 3)) (k : ∀ r mi', P r mi' → AW own cc nL d ini kc ks xo Po 94 (pc + 3) lv (iI r :: st) mi' mr ck sk) : AW own cc nL d ini kc ks xo Po 94 pc lv st0 mi mr ck sk := by
  refine aw_callS hcal hM hna hst9 hr hdd hnl (by omega) (by omega) hd (fun v n' mi' mr' h => ?_)
  obtain ⟨r, h1, h2, h3, h4⟩ := h
  subst h1 h2 h3
  exact k r mi' h4
theorem aw_cSp {y : MethodName} {ccg : ByteArray} {nLg dg idx na : Nat} {rtg : Option FieldType} {As st0 : List Value} {P : Int → Prop} (hcal : aCalS own idx y ccg nLg rtg na) (hM : SPg y ccg nLg rtg dg As mi mr (Pp mi mr P)) (hna : As.length = na) (hst9 : st0 = As.reverse ++ st) (hr : (st.map fun v => v.category).sum ≤ 8) (hdd : dg + 1 ≤ d) (hnl : nLg ≤ 40) (hck : ck ≤ kc) (hsk : sk ≤ ks) (hd : decode cc pc = .ok (.invokestatic idx, 3)) (k : ∀ r, P r → AW own cc nL d ini kc ks xo Po 94 (pc + 3) lv (iI r :: st) mi mr ck sk) : AW own cc nL d ini kc ks xo Po 94 pc lv st0 mi mr ck sk := by
  refine aw_callS hcal hM hna hst9 hr hdd hnl (by omega) (by omega) hd (fun v n' mi' mr' h => ?_)
  obtain ⟨r, h1, h2, h3, h4, h5⟩ := h
  subst h1 h2 h3 h4
  exact k r h5
theorem aw_cSv {y : MethodName} {ccg : ByteArray} {nLg dg idx na : Nat} {rtg : Option FieldType} {As st0 : List Value} {P : aM → Prop} (hcal : aCalS own idx y ccg nLg rtg na) (hM : SPg y ccg nLg rtg dg As mi mr (Pv mr P)) (hna : As.length = na) (hst9 : st0 = As.reverse ++ st) (hr : (st.map fun v => v.category).sum ≤ 8) (hdd : dg + 1 ≤ d) (hnl : nLg ≤ 40) (hck : ck ≤ kc) (hsk : sk ≤ ks) (hd : decode cc pc = .ok (.invokestatic idx, 3)) (k : ∀ mi', P mi' → AW own cc nL d ini kc ks xo Po 94 (pc + 3) lv (st) mi' mr ck sk) : AW own cc nL d ini kc ks xo Po 94 pc lv st0 mi mr ck sk := by
  refine aw_callS hcal hM hna hst9 hr hdd hnl (by omega) (by omega) hd (fun v n' mi' mr' h => ?_)
  obtain ⟨h1, h2, h3, h4⟩ := h
  subst h1 h2 h3
  exact k mi' h4
theorem aw_cSg {y : MethodName} {ccg : ByteArray} {nLg dg idx na : Nat} {rtg : Option FieldType} {As st0 : List Value} {P : Int → aM → aR → Prop} (hcal : aCalS own idx y ccg nLg rtg na) (hM : SPg y ccg nLg rtg dg As mi mr (Pg P)) (hna : As.length = na) (hst9 : st0 = As.reverse ++ st) (hr : (st.map fun v => v.category).sum ≤ 8) (hdd : dg + 1 ≤ d) (hnl : nLg ≤ 40) (hck : ck ≤ kc) (hsk : sk ≤ ks) (hd : decode cc pc = .ok (.invokestatic idx, 3)) (k : ∀ r mi' mr', P r mi' mr' → AW own cc nL d ini kc ks xo Po 94 (pc + 3) lv (iI r :: st) mi' mr' ck sk) : AW own cc nL d ini kc ks xo Po 94 pc lv st0 mi mr ck sk := by
  refine aw_callS hcal hM hna hst9 hr hdd hnl (by omega) (by omega) hd (fun v n' mi' mr' h => ?_)
  obtain ⟨r, h1, h2, h4⟩ := h
  subst h1 h2
  exact k r mi' mr' h4
theorem aw_cSw {y : MethodName} {ccg : ByteArray} {nLg dg idx na : Nat} {rtg : Option FieldType} {As st0 : List Value} {P : aM → aR → Prop} (hcal : aCalS own idx y ccg nLg rtg na) (hM : SPg y ccg nLg rtg dg As mi mr (Pgv P)) (hna : As.length = na) (hst9 : st0 = As.reverse ++ st) (hr : (st.map fun v => v.category).sum ≤ 8) (hdd : dg + 1 ≤ d) (hnl : nLg ≤ 40) (hck : ck ≤ kc) (hsk : sk ≤ ks) (hd : decode cc pc = .ok (.invokestatic idx, 3)) (k : ∀ mi' mr', P mi' mr' → AW own cc nL d ini kc ks xo Po 94 (pc + 3) lv (st) mi' mr' ck sk) : AW own cc nL d ini kc ks xo Po 94 pc lv st0 mi mr ck sk := by
  refine aw_callS hcal hM hna hst9 hr hdd hnl (by omega) (by omega) hd (fun v n' mi' mr' h => ?_)
  obtain ⟨h1, h2, h4⟩ := h
  subst h1 h2
  exact k mi' mr' h4
end AWS
