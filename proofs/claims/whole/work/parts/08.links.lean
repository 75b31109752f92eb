/-! names: links of fields and methods, the code as lists -/
def decAll (c : ByteArray) (L : List (Nat × Instr × Nat)) : Bool := L.all (fun z => decide (decode c z.1 = .ok (z.2.1, z.2.2)))
theorem dk {c : ByteArray} {L : List (Nat × Instr × Nat)} (h : decAll c L = true) (k : Nat) {pc n : Nat} {i : Instr} (hk : L[k]? = some (pc, i, n)) : decode c pc = .ok (i, n) := by
  have h1 := List.all_eq_true.mp h (pc, i, n) (List.mem_of_getElem? hk)
  exact of_decide_eq_true h1
theorem in_Mi : ∀ w ∈ u_ws "RescanMill" T_Mi 10, w ∈ tbG := in_ps [331, 333, 335, 337, 339, 341, 343, 345, 347, 349] (by decide +kernel) (by decide +kernel)
theorem CK_Mi : CK 0 := by
  intro C T h
  cases h
  exact ⟨by decide +kernel, by decide +kernel, by decide +kernel⟩
theorem in_By : ∀ w ∈ u_ws "RescanMill$Bytes" T_By 3, w ∈ tbG := in_ps [50, 52, 54] (by decide +kernel) (by decide +kernel)
theorem CK_By : CK 1 := by
  intro C T h
  cases h
  exact ⟨by decide +kernel, by decide +kernel, by decide +kernel⟩
theorem in_Ca : ∀ w ∈ u_ws "RescanMill$Calls" T_Ca 9, w ∈ tbG := in_ps [131, 133, 135, 137, 139, 141, 143, 145, 147] (by decide +kernel) (by decide +kernel)
theorem CK_Ca : CK 2 := by
  intro C T h
  cases h
  exact ⟨by decide +kernel, by decide +kernel, by decide +kernel⟩
theorem in_Ce : ∀ w ∈ u_ws "RescanMill$Cells" T_Ce 5, w ∈ tbG := in_ps [170, 172, 174, 176, 178] (by decide +kernel) (by decide +kernel)
theorem CK_Ce : CK 3 := by
  intro C T h
  cases h
  exact ⟨by decide +kernel, by decide +kernel, by decide +kernel⟩
theorem in_Ch : ∀ w ∈ u_ws "RescanMill$Chain" T_Ch 3, w ∈ tbG := in_ps [208, 210, 212] (by decide +kernel) (by decide +kernel)
theorem CK_Ch : CK 4 := by
  intro C T h
  cases h
  exact ⟨by decide +kernel, by decide +kernel, by decide +kernel⟩
theorem in_Di : ∀ w ∈ u_ws "RescanMill$Diversions" T_Di 3, w ∈ tbG := in_ps [273, 275, 277] (by decide +kernel) (by decide +kernel)
theorem CK_Di : CK 5 := by
  intro C T h
  cases h
  exact ⟨by decide +kernel, by decide +kernel, by decide +kernel⟩
theorem in_Ex : ∀ w ∈ u_ws "RescanMill$Expression" T_Ex 10, w ∈ tbG := in_ps [300, 302, 304, 306, 308, 310, 312, 314, 316, 318] (by decide +kernel) (by decide +kernel)
theorem CK_Ex : CK 6 := by
  intro C T h
  cases h
  exact ⟨by decide +kernel, by decide +kernel, by decide +kernel⟩
theorem in_In : ∀ w ∈ u_ws "RescanMill$Input" T_In 12, w ∈ tbG := in_ps [85, 87, 89, 91, 93, 95, 97, 99, 101, 103, 105, 107] (by decide +kernel) (by decide +kernel)
theorem CK_In : CK 7 := by
  intro C T h
  cases h
  exact ⟨by decide +kernel, by decide +kernel, by decide +kernel⟩
theorem in_Me : ∀ w ∈ u_ws "RescanMill$Meaning" T_Me 5, w ∈ tbG := in_ps [224, 226, 228, 230, 232] (by decide +kernel) (by decide +kernel)
theorem CK_Me : CK 8 := by
  intro C T h
  cases h
  exact ⟨by decide +kernel, by decide +kernel, by decide +kernel⟩
theorem in_Ms : ∀ w ∈ u_ws "RescanMill$Meanings" T_Ms 6, w ∈ tbG := in_ps [244, 246, 248, 250, 252, 254] (by decide +kernel) (by decide +kernel)
theorem CK_Ms : CK 9 := by
  intro C T h
  cases h
  exact ⟨by decide +kernel, by decide +kernel, by decide +kernel⟩
theorem in_Rf : ∀ w ∈ u_ws "RescanMillModel" T_Rf 47, w ∈ tbG := in_ps [969, 971, 973, 975, 977, 979, 981, 983, 985, 987, 989, 991, 993, 995, 997, 999, 1001, 1003, 1005, 1007, 1009, 1011, 1013, 1015, 1017, 1019, 1021, 1023, 1025, 1027, 1029, 1031, 1033, 1035, 1037, 1039, 1041, 1043, 1045, 1047, 1049, 1051, 1053, 1055, 1057, 1059, 1061] (by decide +kernel) (by decide +kernel)
theorem CK_Rf : CK 10 := by
  intro C T h
  cases h
  exact ⟨by decide +kernel, by decide +kernel, by decide +kernel⟩
theorem F_By_15 : FL "RescanMill$Bytes" 15 1 0 := ⟨"RescanMill$Bytes", T_By, rfl, by decide, in_By, rfl, Or.inl (tb_in (i := 39) (by decide +kernel) (by decide +kernel))⟩
theorem F_In_74 : FL "RescanMill$Input" 74 1 0 := ⟨"RescanMill$Bytes", T_By, rfl, by decide, in_By, rfl, Or.inl (tb_in (i := 40) (by decide +kernel) (by decide +kernel))⟩
theorem F_By_21 : FL "RescanMill$Bytes" 21 1 1 := ⟨"RescanMill$Bytes", T_By, rfl, by decide, in_By, rfl, Or.inl (tb_in (i := 41) (by decide +kernel) (by decide +kernel))⟩
theorem F_Mi_66 : FL "RescanMill" 66 1 1 := ⟨"RescanMill$Bytes", T_By, rfl, by decide, in_By, rfl, Or.inl (tb_in (i := 42) (by decide +kernel) (by decide +kernel))⟩
theorem F_Di_38 : FL "RescanMill$Diversions" 38 1 1 := ⟨"RescanMill$Bytes", T_By, rfl, by decide, in_By, rfl, Or.inl (tb_in (i := 43) (by decide +kernel) (by decide +kernel))⟩
theorem F_Ca_51 : FL "RescanMill$Calls" 51 1 1 := ⟨"RescanMill$Bytes", T_By, rfl, by decide, in_By, rfl, Or.inl (tb_in (i := 44) (by decide +kernel) (by decide +kernel))⟩
theorem F_In_59 : FL "RescanMill$Input" 59 1 1 := ⟨"RescanMill$Bytes", T_By, rfl, by decide, in_By, rfl, Or.inl (tb_in (i := 45) (by decide +kernel) (by decide +kernel))⟩
theorem F_Ms_97 : FL "RescanMill$Meanings" 97 1 1 := ⟨"RescanMill$Bytes", T_By, rfl, by decide, in_By, rfl, Or.inl (tb_in (i := 46) (by decide +kernel) (by decide +kernel))⟩
theorem F_By_25 : FL "RescanMill$Bytes" 25 1 2 := ⟨"RescanMill$Bytes", T_By, rfl, by decide, in_By, rfl, Or.inl (tb_in (i := 47) (by decide +kernel) (by decide +kernel))⟩
theorem F_In_70 : FL "RescanMill$Input" 70 1 2 := ⟨"RescanMill$Bytes", T_By, rfl, by decide, in_By, rfl, Or.inl (tb_in (i := 48) (by decide +kernel) (by decide +kernel))⟩
theorem F_Mi_255 : FL "RescanMill" 255 1 2 := ⟨"RescanMill$Bytes", T_By, rfl, by decide, in_By, rfl, Or.inl (tb_in (i := 49) (by decide +kernel) (by decide +kernel))⟩
theorem F_In_14 : FL "RescanMill$Input" 14 7 0 := ⟨"RescanMill$Input", T_In, rfl, by decide, in_In, rfl, Or.inl (tb_in (i := 67) (by decide +kernel) (by decide +kernel))⟩
theorem F_Mi_289 : FL "RescanMill" 289 7 0 := ⟨"RescanMill$Input", T_In, rfl, by decide, in_In, rfl, Or.inl (tb_in (i := 68) (by decide +kernel) (by decide +kernel))⟩
theorem F_In_20 : FL "RescanMill$Input" 20 7 1 := ⟨"RescanMill$Input", T_In, rfl, by decide, in_In, rfl, Or.inl (tb_in (i := 69) (by decide +kernel) (by decide +kernel))⟩
theorem F_Mi_292 : FL "RescanMill" 292 7 1 := ⟨"RescanMill$Input", T_In, rfl, by decide, in_In, rfl, Or.inl (tb_in (i := 70) (by decide +kernel) (by decide +kernel))⟩
theorem F_In_24 : FL "RescanMill$Input" 24 7 2 := ⟨"RescanMill$Input", T_In, rfl, by decide, in_In, rfl, Or.inl (tb_in (i := 71) (by decide +kernel) (by decide +kernel))⟩
theorem F_Mi_170 : FL "RescanMill" 170 7 2 := ⟨"RescanMill$Input", T_In, rfl, by decide, in_In, rfl, Or.inl (tb_in (i := 72) (by decide +kernel) (by decide +kernel))⟩
theorem F_Mi_88 : FL "RescanMill" 88 7 3 := ⟨"RescanMill$Input", T_In, rfl, by decide, in_In, rfl, Or.inl (tb_in (i := 73) (by decide +kernel) (by decide +kernel))⟩
theorem F_In_95 : FL "RescanMill$Input" 95 7 3 := ⟨"RescanMill$Input", T_In, rfl, by decide, in_In, rfl, Or.inl (tb_in (i := 74) (by decide +kernel) (by decide +kernel))⟩
theorem F_In_89 : FL "RescanMill$Input" 89 7 4 := ⟨"RescanMill$Input", T_In, rfl, by decide, in_In, rfl, Or.inl (tb_in (i := 75) (by decide +kernel) (by decide +kernel))⟩
theorem F_Mi_154 : FL "RescanMill" 154 7 4 := ⟨"RescanMill$Input", T_In, rfl, by decide, in_In, rfl, Or.inl (tb_in (i := 76) (by decide +kernel) (by decide +kernel))⟩
theorem F_In_41 : FL "RescanMill$Input" 41 7 5 := ⟨"RescanMill$Input", T_In, rfl, by decide, in_In, rfl, Or.inl (tb_in (i := 77) (by decide +kernel) (by decide +kernel))⟩
theorem F_Mi_110 : FL "RescanMill" 110 7 5 := ⟨"RescanMill$Input", T_In, rfl, by decide, in_In, rfl, Or.inl (tb_in (i := 78) (by decide +kernel) (by decide +kernel))⟩
theorem F_In_27 : FL "RescanMill$Input" 27 7 6 := ⟨"RescanMill$Input", T_In, rfl, by decide, in_In, rfl, Or.inl (tb_in (i := 79) (by decide +kernel) (by decide +kernel))⟩
theorem F_In_47 : FL "RescanMill$Input" 47 7 7 := ⟨"RescanMill$Input", T_In, rfl, by decide, in_In, rfl, Or.inl (tb_in (i := 80) (by decide +kernel) (by decide +kernel))⟩
theorem F_In_30 : FL "RescanMill$Input" 30 7 8 := ⟨"RescanMill$Input", T_In, rfl, by decide, in_In, rfl, Or.inl (tb_in (i := 81) (by decide +kernel) (by decide +kernel))⟩
theorem F_In_34 : FL "RescanMill$Input" 34 7 9 := ⟨"RescanMill$Input", T_In, rfl, by decide, in_In, rfl, Or.inl (tb_in (i := 82) (by decide +kernel) (by decide +kernel))⟩
theorem F_In_38 : FL "RescanMill$Input" 38 7 10 := ⟨"RescanMill$Input", T_In, rfl, by decide, in_In, rfl, Or.inl (tb_in (i := 83) (by decide +kernel) (by decide +kernel))⟩
theorem F_In_44 : FL "RescanMill$Input" 44 7 11 := ⟨"RescanMill$Input", T_In, rfl, by decide, in_In, rfl, Or.inl (tb_in (i := 84) (by decide +kernel) (by decide +kernel))⟩
theorem F_Ca_14 : FL "RescanMill$Calls" 14 2 0 := ⟨"RescanMill$Calls", T_Ca, rfl, by decide, in_Ca, rfl, Or.inl (tb_in (i := 118) (by decide +kernel) (by decide +kernel))⟩
theorem F_Ms_111 : FL "RescanMill$Meanings" 111 2 0 := ⟨"RescanMill$Calls", T_Ca, rfl, by decide, in_Ca, rfl, Or.inl (tb_in (i := 119) (by decide +kernel) (by decide +kernel))⟩
theorem F_Mi_219 : FL "RescanMill" 219 2 0 := ⟨"RescanMill$Calls", T_Ca, rfl, by decide, in_Ca, rfl, Or.inl (tb_in (i := 120) (by decide +kernel) (by decide +kernel))⟩
theorem F_Ca_40 : FL "RescanMill$Calls" 40 2 1 := ⟨"RescanMill$Calls", T_Ca, rfl, by decide, in_Ca, rfl, Or.inl (tb_in (i := 121) (by decide +kernel) (by decide +kernel))⟩
theorem F_Mi_101 : FL "RescanMill" 101 2 1 := ⟨"RescanMill$Calls", T_Ca, rfl, by decide, in_Ca, rfl, Or.inl (tb_in (i := 122) (by decide +kernel) (by decide +kernel))⟩
theorem F_Ca_44 : FL "RescanMill$Calls" 44 2 2 := ⟨"RescanMill$Calls", T_Ca, rfl, by decide, in_Ca, rfl, Or.inl (tb_in (i := 123) (by decide +kernel) (by decide +kernel))⟩
theorem F_Mi_94 : FL "RescanMill" 94 2 2 := ⟨"RescanMill$Calls", T_Ca, rfl, by decide, in_Ca, rfl, Or.inl (tb_in (i := 124) (by decide +kernel) (by decide +kernel))⟩
theorem F_Ca_20 : FL "RescanMill$Calls" 20 2 3 := ⟨"RescanMill$Calls", T_Ca, rfl, by decide, in_Ca, rfl, Or.inl (tb_in (i := 125) (by decide +kernel) (by decide +kernel))⟩
theorem F_Ca_48 : FL "RescanMill$Calls" 48 2 4 := ⟨"RescanMill$Calls", T_Ca, rfl, by decide, in_Ca, rfl, Or.inl (tb_in (i := 126) (by decide +kernel) (by decide +kernel))⟩
theorem F_Ca_24 : FL "RescanMill$Calls" 24 2 5 := ⟨"RescanMill$Calls", T_Ca, rfl, by decide, in_Ca, rfl, Or.inl (tb_in (i := 127) (by decide +kernel) (by decide +kernel))⟩
theorem F_Ca_27 : FL "RescanMill$Calls" 27 2 6 := ⟨"RescanMill$Calls", T_Ca, rfl, by decide, in_Ca, rfl, Or.inl (tb_in (i := 128) (by decide +kernel) (by decide +kernel))⟩
theorem F_Ca_30 : FL "RescanMill$Calls" 30 2 7 := ⟨"RescanMill$Calls", T_Ca, rfl, by decide, in_Ca, rfl, Or.inl (tb_in (i := 129) (by decide +kernel) (by decide +kernel))⟩
theorem F_Ca_33 : FL "RescanMill$Calls" 33 2 8 := ⟨"RescanMill$Calls", T_Ca, rfl, by decide, in_Ca, rfl, Or.inl (tb_in (i := 130) (by decide +kernel) (by decide +kernel))⟩
theorem F_Ce_19 : FL "RescanMill$Cells" 19 3 0 := ⟨"RescanMill$Cells", T_Ce, rfl, by decide, in_Ce, rfl, Or.inl (tb_in (i := 165) (by decide +kernel) (by decide +kernel))⟩
theorem F_Ce_23 : FL "RescanMill$Cells" 23 3 1 := ⟨"RescanMill$Cells", T_Ce, rfl, by decide, in_Ce, rfl, Or.inl (tb_in (i := 166) (by decide +kernel) (by decide +kernel))⟩
theorem F_Ce_27 : FL "RescanMill$Cells" 27 3 2 := ⟨"RescanMill$Cells", T_Ce, rfl, by decide, in_Ce, rfl, Or.inl (tb_in (i := 167) (by decide +kernel) (by decide +kernel))⟩
theorem F_Ce_7 : FL "RescanMill$Cells" 7 3 3 := ⟨"RescanMill$Cells", T_Ce, rfl, by decide, in_Ce, rfl, Or.inl (tb_in (i := 168) (by decide +kernel) (by decide +kernel))⟩
theorem F_Ce_30 : FL "RescanMill$Cells" 30 3 4 := ⟨"RescanMill$Cells", T_Ce, rfl, by decide, in_Ce, rfl, Or.inl (tb_in (i := 169) (by decide +kernel) (by decide +kernel))⟩
theorem F_Ch_7 : FL "RescanMill$Chain" 7 4 0 := ⟨"RescanMill$Chain", T_Ch, rfl, by decide, in_Ch, rfl, Or.inl (tb_in (i := 196) (by decide +kernel) (by decide +kernel))⟩
theorem F_Di_55 : FL "RescanMill$Diversions" 55 4 0 := ⟨"RescanMill$Chain", T_Ch, rfl, by decide, in_Ch, rfl, Or.inl (tb_in (i := 197) (by decide +kernel) (by decide +kernel))⟩
theorem F_Ms_86 : FL "RescanMill$Meanings" 86 4 0 := ⟨"RescanMill$Chain", T_Ch, rfl, by decide, in_Ch, rfl, Or.inl (tb_in (i := 198) (by decide +kernel) (by decide +kernel))⟩
theorem F_Ce_52 : FL "RescanMill$Cells" 52 4 0 := ⟨"RescanMill$Chain", T_Ch, rfl, by decide, in_Ch, rfl, Or.inl (tb_in (i := 199) (by decide +kernel) (by decide +kernel))⟩
theorem F_Mi_249 : FL "RescanMill" 249 4 0 := ⟨"RescanMill$Chain", T_Ch, rfl, by decide, in_Ch, rfl, Or.inl (tb_in (i := 200) (by decide +kernel) (by decide +kernel))⟩
theorem F_Ch_13 : FL "RescanMill$Chain" 13 4 1 := ⟨"RescanMill$Chain", T_Ch, rfl, by decide, in_Ch, rfl, Or.inl (tb_in (i := 201) (by decide +kernel) (by decide +kernel))⟩
theorem F_Ce_47 : FL "RescanMill$Cells" 47 4 1 := ⟨"RescanMill$Chain", T_Ch, rfl, by decide, in_Ch, rfl, Or.inl (tb_in (i := 202) (by decide +kernel) (by decide +kernel))⟩
theorem F_Ch_16 : FL "RescanMill$Chain" 16 4 2 := ⟨"RescanMill$Chain", T_Ch, rfl, by decide, in_Ch, rfl, Or.inl (tb_in (i := 203) (by decide +kernel) (by decide +kernel))⟩
theorem F_Di_58 : FL "RescanMill$Diversions" 58 4 2 := ⟨"RescanMill$Chain", T_Ch, rfl, by decide, in_Ch, rfl, Or.inl (tb_in (i := 204) (by decide +kernel) (by decide +kernel))⟩
theorem F_Ms_83 : FL "RescanMill$Meanings" 83 4 2 := ⟨"RescanMill$Chain", T_Ch, rfl, by decide, in_Ch, rfl, Or.inl (tb_in (i := 205) (by decide +kernel) (by decide +kernel))⟩
theorem F_Ce_55 : FL "RescanMill$Cells" 55 4 2 := ⟨"RescanMill$Chain", T_Ch, rfl, by decide, in_Ch, rfl, Or.inl (tb_in (i := 206) (by decide +kernel) (by decide +kernel))⟩
theorem F_Mi_254 : FL "RescanMill" 254 4 2 := ⟨"RescanMill$Chain", T_Ch, rfl, by decide, in_Ch, rfl, Or.inl (tb_in (i := 207) (by decide +kernel) (by decide +kernel))⟩
theorem F_Me_10 : FL "RescanMill$Meaning" 10 8 0 := ⟨"RescanMill$Meaning", T_Me, rfl, by decide, in_Me, rfl, Or.inl (tb_in (i := 215) (by decide +kernel) (by decide +kernel))⟩
theorem F_Ms_48 : FL "RescanMill$Meanings" 48 8 0 := ⟨"RescanMill$Meaning", T_Me, rfl, by decide, in_Me, rfl, Or.inl (tb_in (i := 216) (by decide +kernel) (by decide +kernel))⟩
theorem F_Me_16 : FL "RescanMill$Meaning" 16 8 1 := ⟨"RescanMill$Meaning", T_Me, rfl, by decide, in_Me, rfl, Or.inl (tb_in (i := 217) (by decide +kernel) (by decide +kernel))⟩
theorem F_Ms_57 : FL "RescanMill$Meanings" 57 8 1 := ⟨"RescanMill$Meaning", T_Me, rfl, by decide, in_Me, rfl, Or.inl (tb_in (i := 218) (by decide +kernel) (by decide +kernel))⟩
theorem F_Mi_228 : FL "RescanMill" 228 8 1 := ⟨"RescanMill$Meaning", T_Me, rfl, by decide, in_Me, rfl, Or.inl (tb_in (i := 219) (by decide +kernel) (by decide +kernel))⟩
theorem F_Ms_102 : FL "RescanMill$Meanings" 102 8 2 := ⟨"RescanMill$Meaning", T_Me, rfl, by decide, in_Me, rfl, Or.inl (tb_in (i := 220) (by decide +kernel) (by decide +kernel))⟩
theorem F_Mi_180 : FL "RescanMill" 180 8 2 := ⟨"RescanMill$Meaning", T_Me, rfl, by decide, in_Me, rfl, Or.inl (tb_in (i := 221) (by decide +kernel) (by decide +kernel))⟩
theorem F_Ms_76 : FL "RescanMill$Meanings" 76 8 3 := ⟨"RescanMill$Meaning", T_Me, rfl, by decide, in_Me, rfl, Or.inl (tb_in (i := 222) (by decide +kernel) (by decide +kernel))⟩
theorem F_Ms_60 : FL "RescanMill$Meanings" 60 8 4 := ⟨"RescanMill$Meaning", T_Me, rfl, by decide, in_Me, rfl, Or.inl (tb_in (i := 223) (by decide +kernel) (by decide +kernel))⟩
theorem F_Ms_16 : FL "RescanMill$Meanings" 16 9 0 := ⟨"RescanMill$Meanings", T_Ms, rfl, by decide, in_Ms, rfl, Or.inl (tb_in (i := 235) (by decide +kernel) (by decide +kernel))⟩
theorem F_Mi_245 : FL "RescanMill" 245 9 0 := ⟨"RescanMill$Meanings", T_Ms, rfl, by decide, in_Ms, rfl, Or.inl (tb_in (i := 236) (by decide +kernel) (by decide +kernel))⟩
theorem F_Ms_37 : FL "RescanMill$Meanings" 37 9 1 := ⟨"RescanMill$Meanings", T_Ms, rfl, by decide, in_Ms, rfl, Or.inl (tb_in (i := 237) (by decide +kernel) (by decide +kernel))⟩
theorem F_Mi_113 : FL "RescanMill" 113 9 1 := ⟨"RescanMill$Meanings", T_Ms, rfl, by decide, in_Ms, rfl, Or.inl (tb_in (i := 238) (by decide +kernel) (by decide +kernel))⟩
theorem F_Ms_41 : FL "RescanMill$Meanings" 41 9 2 := ⟨"RescanMill$Meanings", T_Ms, rfl, by decide, in_Ms, rfl, Or.inl (tb_in (i := 239) (by decide +kernel) (by decide +kernel))⟩
theorem F_Mi_116 : FL "RescanMill" 116 9 2 := ⟨"RescanMill$Meanings", T_Ms, rfl, by decide, in_Ms, rfl, Or.inl (tb_in (i := 240) (by decide +kernel) (by decide +kernel))⟩
theorem F_Ms_22 : FL "RescanMill$Meanings" 22 9 3 := ⟨"RescanMill$Meanings", T_Ms, rfl, by decide, in_Ms, rfl, Or.inl (tb_in (i := 241) (by decide +kernel) (by decide +kernel))⟩
theorem F_Ms_30 : FL "RescanMill$Meanings" 30 9 4 := ⟨"RescanMill$Meanings", T_Ms, rfl, by decide, in_Ms, rfl, Or.inl (tb_in (i := 242) (by decide +kernel) (by decide +kernel))⟩
theorem F_Ms_44 : FL "RescanMill$Meanings" 44 9 5 := ⟨"RescanMill$Meanings", T_Ms, rfl, by decide, in_Ms, rfl, Or.inl (tb_in (i := 243) (by decide +kernel) (by decide +kernel))⟩
theorem F_Di_34 : FL "RescanMill$Diversions" 34 5 0 := ⟨"RescanMill$Diversions", T_Di, rfl, by decide, in_Di, rfl, Or.inl (tb_in (i := 269) (by decide +kernel) (by decide +kernel))⟩
theorem F_Mi_379 : FL "RescanMill" 379 5 0 := ⟨"RescanMill$Diversions", T_Di, rfl, by decide, in_Di, rfl, Or.inl (tb_in (i := 270) (by decide +kernel) (by decide +kernel))⟩
theorem F_Di_15 : FL "RescanMill$Diversions" 15 5 1 := ⟨"RescanMill$Diversions", T_Di, rfl, by decide, in_Di, rfl, Or.inl (tb_in (i := 271) (by decide +kernel) (by decide +kernel))⟩
theorem F_Di_23 : FL "RescanMill$Diversions" 23 5 2 := ⟨"RescanMill$Diversions", T_Di, rfl, by decide, in_Di, rfl, Or.inl (tb_in (i := 272) (by decide +kernel) (by decide +kernel))⟩
theorem F_Ex_14 : FL "RescanMill$Expression" 14 6 0 := ⟨"RescanMill$Expression", T_Ex, rfl, by decide, in_Ex, rfl, Or.inl (tb_in (i := 290) (by decide +kernel) (by decide +kernel))⟩
theorem F_Ex_34 : FL "RescanMill$Expression" 34 6 1 := ⟨"RescanMill$Expression", T_Ex, rfl, by decide, in_Ex, rfl, Or.inl (tb_in (i := 291) (by decide +kernel) (by decide +kernel))⟩
theorem F_Ex_38 : FL "RescanMill$Expression" 38 6 2 := ⟨"RescanMill$Expression", T_Ex, rfl, by decide, in_Ex, rfl, Or.inl (tb_in (i := 292) (by decide +kernel) (by decide +kernel))⟩
theorem F_Ex_20 : FL "RescanMill$Expression" 20 6 3 := ⟨"RescanMill$Expression", T_Ex, rfl, by decide, in_Ex, rfl, Or.inl (tb_in (i := 293) (by decide +kernel) (by decide +kernel))⟩
theorem F_Ex_74 : FL "RescanMill$Expression" 74 6 4 := ⟨"RescanMill$Expression", T_Ex, rfl, by decide, in_Ex, rfl, Or.inl (tb_in (i := 294) (by decide +kernel) (by decide +kernel))⟩
theorem F_Ex_26 : FL "RescanMill$Expression" 26 6 5 := ⟨"RescanMill$Expression", T_Ex, rfl, by decide, in_Ex, rfl, Or.inl (tb_in (i := 295) (by decide +kernel) (by decide +kernel))⟩
theorem F_Ex_71 : FL "RescanMill$Expression" 71 6 6 := ⟨"RescanMill$Expression", T_Ex, rfl, by decide, in_Ex, rfl, Or.inl (tb_in (i := 296) (by decide +kernel) (by decide +kernel))⟩
theorem F_Ex_83 : FL "RescanMill$Expression" 83 6 7 := ⟨"RescanMill$Expression", T_Ex, rfl, by decide, in_Ex, rfl, Or.inl (tb_in (i := 297) (by decide +kernel) (by decide +kernel))⟩
theorem F_Ex_48 : FL "RescanMill$Expression" 48 6 8 := ⟨"RescanMill$Expression", T_Ex, rfl, by decide, in_Ex, rfl, Or.inl (tb_in (i := 298) (by decide +kernel) (by decide +kernel))⟩
theorem F_Ex_77 : FL "RescanMill$Expression" 77 6 9 := ⟨"RescanMill$Expression", T_Ex, rfl, by decide, in_Ex, rfl, Or.inl (tb_in (i := 299) (by decide +kernel) (by decide +kernel))⟩
theorem F_Mi_17 : FL "RescanMill" 17 0 0 := ⟨"RescanMill", T_Mi, rfl, by decide, in_Mi, rfl, Or.inl (tb_in (i := 321) (by decide +kernel) (by decide +kernel))⟩
theorem F_Mi_21 : FL "RescanMill" 21 0 1 := ⟨"RescanMill", T_Mi, rfl, by decide, in_Mi, rfl, Or.inl (tb_in (i := 322) (by decide +kernel) (by decide +kernel))⟩
theorem F_Mi_24 : FL "RescanMill" 24 0 2 := ⟨"RescanMill", T_Mi, rfl, by decide, in_Mi, rfl, Or.inl (tb_in (i := 323) (by decide +kernel) (by decide +kernel))⟩
theorem F_Mi_30 : FL "RescanMill" 30 0 3 := ⟨"RescanMill", T_Mi, rfl, by decide, in_Mi, rfl, Or.inl (tb_in (i := 324) (by decide +kernel) (by decide +kernel))⟩
theorem F_Mi_37 : FL "RescanMill" 37 0 4 := ⟨"RescanMill", T_Mi, rfl, by decide, in_Mi, rfl, Or.inl (tb_in (i := 325) (by decide +kernel) (by decide +kernel))⟩
theorem F_Mi_44 : FL "RescanMill" 44 0 5 := ⟨"RescanMill", T_Mi, rfl, by decide, in_Mi, rfl, Or.inl (tb_in (i := 326) (by decide +kernel) (by decide +kernel))⟩
theorem F_Mi_51 : FL "RescanMill" 51 0 6 := ⟨"RescanMill", T_Mi, rfl, by decide, in_Mi, rfl, Or.inl (tb_in (i := 327) (by decide +kernel) (by decide +kernel))⟩
theorem F_Mi_58 : FL "RescanMill" 58 0 7 := ⟨"RescanMill", T_Mi, rfl, by decide, in_Mi, rfl, Or.inl (tb_in (i := 328) (by decide +kernel) (by decide +kernel))⟩
theorem F_Mi_62 : FL "RescanMill" 62 0 8 := ⟨"RescanMill", T_Mi, rfl, by decide, in_Mi, rfl, Or.inl (tb_in (i := 329) (by decide +kernel) (by decide +kernel))⟩
theorem F_Mi_107 : FL "RescanMill" 107 0 9 := ⟨"RescanMill", T_Mi, rfl, by decide, in_Mi, rfl, Or.inl (tb_in (i := 330) (by decide +kernel) (by decide +kernel))⟩
theorem Z_Mi_132 : Cond.fieldLink "RescanMill" 132 "RescanMill" "BUILT_INS" "[LRescanMill$BuiltIn;" ∈ tbG := tb_in (i := 425) (by decide +kernel) (by decide +kernel)
theorem Z_St_38 : Cond.fieldLink "java/lang/String" 38 "java/lang/String" "COMPACT_STRINGS" "Z" ∈ tbG := tb_in (i := 438) (by decide +kernel) (by decide +kernel)
theorem Z_St_1053 : Cond.fieldLink "java/lang/String" 1053 "jdk/internal/util/Preconditions" "SIOOBE_FORMATTER" "Ljava/util/function/BiFunction;" ∈ tbG := tb_in (i := 454) (by decide +kernel) (by decide +kernel)
theorem Z_Su_44 : Cond.fieldLink "java/lang/StringUTF16" 44 "java/lang/StringUTF16" "$assertionsDisabled" "Z" ∈ tbG := tb_in (i := 472) (by decide +kernel) (by decide +kernel)
theorem Z_Su_59 : Cond.fieldLink "java/lang/StringUTF16" 59 "java/lang/StringUTF16" "HI_BYTE_SHIFT" "I" ∈ tbG := tb_in (i := 474) (by decide +kernel) (by decide +kernel)
theorem Z_Su_63 : Cond.fieldLink "java/lang/StringUTF16" 63 "java/lang/StringUTF16" "LO_BYTE_SHIFT" "I" ∈ tbG := tb_in (i := 476) (by decide +kernel) (by decide +kernel)
theorem Z_Mi_295 : Cond.fieldLink "RescanMill" 295 "RescanMill$1" "$SwitchMap$RescanMill$BuiltIn" "[I" ∈ tbG := tb_in (i := 691) (by decide +kernel) (by decide +kernel)
theorem Z_Ex_149 : Cond.fieldLink "RescanMill$Expression" 149 "RescanMill$1" "$SwitchMap$RescanMill$Operator" "[I" ∈ tbG := tb_in (i := 770) (by decide +kernel) (by decide +kernel)
theorem Z_Ex_94 : Cond.fieldLink "RescanMill$Expression" 94 "RescanMill$Operator" "PARENTHESIS" "LRescanMill$Operator;" ∈ tbG := tb_in (i := 787) (by decide +kernel) (by decide +kernel)
theorem Z_Ex_98 : Cond.fieldLink "RescanMill$Expression" 98 "RescanMill$Operator" "KEEP" "LRescanMill$Operator;" ∈ tbG := tb_in (i := 789) (by decide +kernel) (by decide +kernel)
theorem Z_Ex_101 : Cond.fieldLink "RescanMill$Expression" 101 "RescanMill$Operator" "NEGATE" "LRescanMill$Operator;" ∈ tbG := tb_in (i := 791) (by decide +kernel) (by decide +kernel)
theorem Z_Ex_104 : Cond.fieldLink "RescanMill$Expression" 104 "RescanMill$Operator" "INVERT" "LRescanMill$Operator;" ∈ tbG := tb_in (i := 793) (by decide +kernel) (by decide +kernel)
theorem Z_Ex_107 : Cond.fieldLink "RescanMill$Expression" 107 "RescanMill$Operator" "NOT" "LRescanMill$Operator;" ∈ tbG := tb_in (i := 795) (by decide +kernel) (by decide +kernel)
theorem F_Rf_68 : FL "RescanMillModel" 68 10 0 := ⟨"RescanMillModel", T_Rf, rfl, by decide, in_Rf, rfl, Or.inl (tb_in (i := 922) (by decide +kernel) (by decide +kernel))⟩
theorem F_Rf_10 : FL "RescanMillModel" 10 10 1 := ⟨"RescanMillModel", T_Rf, rfl, by decide, in_Rf, rfl, Or.inl (tb_in (i := 923) (by decide +kernel) (by decide +kernel))⟩
theorem F_Rf_72 : FL "RescanMillModel" 72 10 2 := ⟨"RescanMillModel", T_Rf, rfl, by decide, in_Rf, rfl, Or.inl (tb_in (i := 924) (by decide +kernel) (by decide +kernel))⟩
theorem F_Rf_75 : FL "RescanMillModel" 75 10 3 := ⟨"RescanMillModel", T_Rf, rfl, by decide, in_Rf, rfl, Or.inl (tb_in (i := 925) (by decide +kernel) (by decide +kernel))⟩
theorem F_Rf_88 : FL "RescanMillModel" 88 10 4 := ⟨"RescanMillModel", T_Rf, rfl, by decide, in_Rf, rfl, Or.inl (tb_in (i := 926) (by decide +kernel) (by decide +kernel))⟩
theorem F_Rf_14 : FL "RescanMillModel" 14 10 5 := ⟨"RescanMillModel", T_Rf, rfl, by decide, in_Rf, rfl, Or.inl (tb_in (i := 927) (by decide +kernel) (by decide +kernel))⟩
theorem F_Rf_382 : FL "RescanMillModel" 382 10 6 := ⟨"RescanMillModel", T_Rf, rfl, by decide, in_Rf, rfl, Or.inl (tb_in (i := 928) (by decide +kernel) (by decide +kernel))⟩
theorem F_Rf_17 : FL "RescanMillModel" 17 10 7 := ⟨"RescanMillModel", T_Rf, rfl, by decide, in_Rf, rfl, Or.inl (tb_in (i := 929) (by decide +kernel) (by decide +kernel))⟩
theorem F_Rf_78 : FL "RescanMillModel" 78 10 8 := ⟨"RescanMillModel", T_Rf, rfl, by decide, in_Rf, rfl, Or.inl (tb_in (i := 930) (by decide +kernel) (by decide +kernel))⟩
theorem F_Rf_91 : FL "RescanMillModel" 91 10 9 := ⟨"RescanMillModel", T_Rf, rfl, by decide, in_Rf, rfl, Or.inl (tb_in (i := 931) (by decide +kernel) (by decide +kernel))⟩
theorem F_Rf_94 : FL "RescanMillModel" 94 10 10 := ⟨"RescanMillModel", T_Rf, rfl, by decide, in_Rf, rfl, Or.inl (tb_in (i := 932) (by decide +kernel) (by decide +kernel))⟩
theorem F_Rf_81 : FL "RescanMillModel" 81 10 11 := ⟨"RescanMillModel", T_Rf, rfl, by decide, in_Rf, rfl, Or.inl (tb_in (i := 933) (by decide +kernel) (by decide +kernel))⟩
theorem F_Rf_20 : FL "RescanMillModel" 20 10 12 := ⟨"RescanMillModel", T_Rf, rfl, by decide, in_Rf, rfl, Or.inl (tb_in (i := 934) (by decide +kernel) (by decide +kernel))⟩
theorem F_Rf_112 : FL "RescanMillModel" 112 10 13 := ⟨"RescanMillModel", T_Rf, rfl, by decide, in_Rf, rfl, Or.inl (tb_in (i := 935) (by decide +kernel) (by decide +kernel))⟩
theorem F_Rf_24 : FL "RescanMillModel" 24 10 14 := ⟨"RescanMillModel", T_Rf, rfl, by decide, in_Rf, rfl, Or.inl (tb_in (i := 936) (by decide +kernel) (by decide +kernel))⟩
theorem F_Rf_119 : FL "RescanMillModel" 119 10 15 := ⟨"RescanMillModel", T_Rf, rfl, by decide, in_Rf, rfl, Or.inl (tb_in (i := 937) (by decide +kernel) (by decide +kernel))⟩
theorem F_Rf_126 : FL "RescanMillModel" 126 10 16 := ⟨"RescanMillModel", T_Rf, rfl, by decide, in_Rf, rfl, Or.inl (tb_in (i := 938) (by decide +kernel) (by decide +kernel))⟩
theorem F_Rf_27 : FL "RescanMillModel" 27 10 17 := ⟨"RescanMillModel", T_Rf, rfl, by decide, in_Rf, rfl, Or.inl (tb_in (i := 939) (by decide +kernel) (by decide +kernel))⟩
theorem F_Rf_109 : FL "RescanMillModel" 109 10 18 := ⟨"RescanMillModel", T_Rf, rfl, by decide, in_Rf, rfl, Or.inl (tb_in (i := 940) (by decide +kernel) (by decide +kernel))⟩
theorem F_Rf_31 : FL "RescanMillModel" 31 10 19 := ⟨"RescanMillModel", T_Rf, rfl, by decide, in_Rf, rfl, Or.inl (tb_in (i := 941) (by decide +kernel) (by decide +kernel))⟩
theorem F_Rf_139 : FL "RescanMillModel" 139 10 20 := ⟨"RescanMillModel", T_Rf, rfl, by decide, in_Rf, rfl, Or.inl (tb_in (i := 942) (by decide +kernel) (by decide +kernel))⟩
theorem F_Rf_188 : FL "RescanMillModel" 188 10 21 := ⟨"RescanMillModel", T_Rf, rfl, by decide, in_Rf, rfl, Or.inl (tb_in (i := 943) (by decide +kernel) (by decide +kernel))⟩
theorem F_Rf_34 : FL "RescanMillModel" 34 10 22 := ⟨"RescanMillModel", T_Rf, rfl, by decide, in_Rf, rfl, Or.inl (tb_in (i := 944) (by decide +kernel) (by decide +kernel))⟩
theorem F_Rf_37 : FL "RescanMillModel" 37 10 23 := ⟨"RescanMillModel", T_Rf, rfl, by decide, in_Rf, rfl, Or.inl (tb_in (i := 945) (by decide +kernel) (by decide +kernel))⟩
theorem F_Rf_40 : FL "RescanMillModel" 40 10 24 := ⟨"RescanMillModel", T_Rf, rfl, by decide, in_Rf, rfl, Or.inl (tb_in (i := 946) (by decide +kernel) (by decide +kernel))⟩
theorem F_Rf_43 : FL "RescanMillModel" 43 10 25 := ⟨"RescanMillModel", T_Rf, rfl, by decide, in_Rf, rfl, Or.inl (tb_in (i := 947) (by decide +kernel) (by decide +kernel))⟩
theorem F_Rf_46 : FL "RescanMillModel" 46 10 26 := ⟨"RescanMillModel", T_Rf, rfl, by decide, in_Rf, rfl, Or.inl (tb_in (i := 948) (by decide +kernel) (by decide +kernel))⟩
theorem F_Rf_191 : FL "RescanMillModel" 191 10 27 := ⟨"RescanMillModel", T_Rf, rfl, by decide, in_Rf, rfl, Or.inl (tb_in (i := 949) (by decide +kernel) (by decide +kernel))⟩
theorem F_Rf_194 : FL "RescanMillModel" 194 10 28 := ⟨"RescanMillModel", T_Rf, rfl, by decide, in_Rf, rfl, Or.inl (tb_in (i := 950) (by decide +kernel) (by decide +kernel))⟩
theorem F_Rf_197 : FL "RescanMillModel" 197 10 29 := ⟨"RescanMillModel", T_Rf, rfl, by decide, in_Rf, rfl, Or.inl (tb_in (i := 951) (by decide +kernel) (by decide +kernel))⟩
theorem F_Rf_50 : FL "RescanMillModel" 50 10 30 := ⟨"RescanMillModel", T_Rf, rfl, by decide, in_Rf, rfl, Or.inl (tb_in (i := 952) (by decide +kernel) (by decide +kernel))⟩
theorem F_Rf_53 : FL "RescanMillModel" 53 10 31 := ⟨"RescanMillModel", T_Rf, rfl, by decide, in_Rf, rfl, Or.inl (tb_in (i := 953) (by decide +kernel) (by decide +kernel))⟩
theorem F_Rf_217 : FL "RescanMillModel" 217 10 32 := ⟨"RescanMillModel", T_Rf, rfl, by decide, in_Rf, rfl, Or.inl (tb_in (i := 954) (by decide +kernel) (by decide +kernel))⟩
theorem F_Rf_220 : FL "RescanMillModel" 220 10 33 := ⟨"RescanMillModel", T_Rf, rfl, by decide, in_Rf, rfl, Or.inl (tb_in (i := 955) (by decide +kernel) (by decide +kernel))⟩
theorem F_Rf_240 : FL "RescanMillModel" 240 10 34 := ⟨"RescanMillModel", T_Rf, rfl, by decide, in_Rf, rfl, Or.inl (tb_in (i := 956) (by decide +kernel) (by decide +kernel))⟩
theorem F_Rf_56 : FL "RescanMillModel" 56 10 35 := ⟨"RescanMillModel", T_Rf, rfl, by decide, in_Rf, rfl, Or.inl (tb_in (i := 957) (by decide +kernel) (by decide +kernel))⟩
theorem F_Rf_226 : FL "RescanMillModel" 226 10 36 := ⟨"RescanMillModel", T_Rf, rfl, by decide, in_Rf, rfl, Or.inl (tb_in (i := 958) (by decide +kernel) (by decide +kernel))⟩
theorem F_Rf_243 : FL "RescanMillModel" 243 10 37 := ⟨"RescanMillModel", T_Rf, rfl, by decide, in_Rf, rfl, Or.inl (tb_in (i := 959) (by decide +kernel) (by decide +kernel))⟩
theorem F_Rf_59 : FL "RescanMillModel" 59 10 38 := ⟨"RescanMillModel", T_Rf, rfl, by decide, in_Rf, rfl, Or.inl (tb_in (i := 960) (by decide +kernel) (by decide +kernel))⟩
theorem F_Rf_334 : FL "RescanMillModel" 334 10 39 := ⟨"RescanMillModel", T_Rf, rfl, by decide, in_Rf, rfl, Or.inl (tb_in (i := 961) (by decide +kernel) (by decide +kernel))⟩
theorem F_Rf_337 : FL "RescanMillModel" 337 10 40 := ⟨"RescanMillModel", T_Rf, rfl, by decide, in_Rf, rfl, Or.inl (tb_in (i := 962) (by decide +kernel) (by decide +kernel))⟩
theorem F_Rf_343 : FL "RescanMillModel" 343 10 41 := ⟨"RescanMillModel", T_Rf, rfl, by decide, in_Rf, rfl, Or.inl (tb_in (i := 963) (by decide +kernel) (by decide +kernel))⟩
theorem F_Rf_347 : FL "RescanMillModel" 347 10 42 := ⟨"RescanMillModel", T_Rf, rfl, by decide, in_Rf, rfl, Or.inl (tb_in (i := 964) (by decide +kernel) (by decide +kernel))⟩
theorem F_Rf_350 : FL "RescanMillModel" 350 10 43 := ⟨"RescanMillModel", T_Rf, rfl, by decide, in_Rf, rfl, Or.inl (tb_in (i := 965) (by decide +kernel) (by decide +kernel))⟩
theorem F_Rf_353 : FL "RescanMillModel" 353 10 44 := ⟨"RescanMillModel", T_Rf, rfl, by decide, in_Rf, rfl, Or.inl (tb_in (i := 966) (by decide +kernel) (by decide +kernel))⟩
theorem F_Rf_62 : FL "RescanMillModel" 62 10 45 := ⟨"RescanMillModel", T_Rf, rfl, by decide, in_Rf, rfl, Or.inl (tb_in (i := 967) (by decide +kernel) (by decide +kernel))⟩
theorem F_Rf_65 : FL "RescanMillModel" 65 10 46 := ⟨"RescanMillModel", T_Rf, rfl, by decide, in_Rf, rfl, Or.inl (tb_in (i := 968) (by decide +kernel) (by decide +kernel))⟩
theorem Z_Mi_136 : Cond.fieldLink "RescanMill" 136 "RescanMill$BuiltIn" "spelled" "Ljava/lang/String;" ∈ tbG := tb_in (i := 1331) (by decide +kernel) (by decide +kernel)
theorem Z_St_9 : Cond.fieldLink "java/lang/String" 9 "java/lang/String" "value" "[B" ∈ tbG := tb_in (i := 1332) (by decide +kernel) (by decide +kernel)
theorem Z_St_15 : Cond.fieldLink "java/lang/String" 15 "java/lang/String" "coder" "B" ∈ tbG := tb_in (i := 1333) (by decide +kernel) (by decide +kernel)
theorem Z_Mi_186 : Cond.fieldLink "RescanMill" 186 "RescanMill$BuiltIn" "starred" "Z" ∈ tbG := tb_in (i := 1334) (by decide +kernel) (by decide +kernel)
theorem Z_En_7 : Cond.fieldLink "java/lang/Enum" 7 "java/lang/Enum" "ordinal" "I" ∈ tbG := tb_in (i := 1335) (by decide +kernel) (by decide +kernel)
theorem Z_Ex_114 : Cond.fieldLink "RescanMill$Expression" 114 "RescanMill$Operator" "strength" "I" ∈ tbG := tb_in (i := 1336) (by decide +kernel) (by decide +kernel)
theorem Z_Op_96 : Cond.fieldLink "RescanMill$Operator" 96 "RescanMill$Operator" "strength" "I" ∈ tbG := tb_in (i := 1337) (by decide +kernel) (by decide +kernel)
theorem Z_Ex_117 : Cond.fieldLink "RescanMill$Expression" 117 "RescanMill$Operator" "sign" "Ljava/lang/String;" ∈ tbG := tb_in (i := 1338) (by decide +kernel) (by decide +kernel)
theorem C_Mi_13 : Cond.constant "RescanMill" 13 (32768 : Int32) ∈ tbG := tb_in (i := 31) (by decide +kernel) (by decide +kernel)
theorem C_In_23 : Cond.constant "RescanMill$Input" 23 (32768 : Int32) ∈ tbG := tb_in (i := 66) (by decide +kernel) (by decide +kernel)
theorem C_Di_11 : Cond.constant "RescanMill$Diversions" 11 (32768 : Int32) ∈ tbG := tb_in (i := 264) (by decide +kernel) (by decide +kernel)
theorem C_Mi_80 : Cond.constant "RescanMill" 80 (400000 : Int32) ∈ tbG := tb_in (i := 387) (by decide +kernel) (by decide +kernel)
theorem C_By_53 : Cond.constantLong "RescanMill$Bytes" 53 (10 : Int64) ∈ tbG := tb_in (i := 682) (by decide +kernel) (by decide +kernel)
theorem C_Mi_364 : Cond.constant "RescanMill" 364 (-2147483648 : Int32) ∈ tbG := tb_in (i := 830) (by decide +kernel) (by decide +kernel)
theorem C_Rf_9 : Cond.constant "RescanMillModel" 9 (32768 : Int32) ∈ tbG := tb_in (i := 919) (by decide +kernel) (by decide +kernel)
theorem C_Rf_30 : Cond.constant "RescanMillModel" 30 (32769 : Int32) ∈ tbG := tb_in (i := 920) (by decide +kernel) (by decide +kernel)
theorem C_Rf_49 : Cond.constant "RescanMillModel" 49 (327680 : Int32) ∈ tbG := tb_in (i := 921) (by decide +kernel) (by decide +kernel)
theorem C_Rf_381 : Cond.constant "RescanMillModel" 381 (400000 : Int32) ∈ tbG := tb_in (i := 1080) (by decide +kernel) (by decide +kernel)
theorem C_Rf_148 : Cond.constantLong "RescanMillModel" 148 (9 : Int64) ∈ tbG := tb_in (i := 1212) (by decide +kernel) (by decide +kernel)
theorem C_Rf_150 : Cond.constantLong "RescanMillModel" 150 (10 : Int64) ∈ tbG := tb_in (i := 1213) (by decide +kernel) (by decide +kernel)
theorem C_Rf_152 : Cond.constantLong "RescanMillModel" 152 (48 : Int64) ∈ tbG := tb_in (i := 1214) (by decide +kernel) (by decide +kernel)
theorem C_Lw_13 : Cond.constantLong "RescanMillLaw" 13 (4294967295 : Int64) ∈ tbG := tb_in (i := 1330) (by decide +kernel) (by decide +kernel)
theorem W_maxS : Cond.static Lib.Math.max.name ∈ tbG := tb_in (i := 37) (by decide +kernel) (by decide +kernel)
theorem W_maxC : Cond.code Lib.Math.max.name Lib.Math.max.code 2 (some .int) ∈ tbG := tb_in (i := 38) (by decide +kernel) (by decide +kernel)
theorem W_minS : Cond.static Lib.Math.min.name ∈ tbG := tb_in (i := 844) (by decide +kernel) (by decide +kernel)
theorem W_minC : Cond.code Lib.Math.min.name Lib.Math.min.code 2 (some .int) ∈ tbG := tb_in (i := 845) (by decide +kernel) (by decide +kernel)
theorem W_mathI : Cond.initialized "java/lang/Math" ∈ tbG := tb_in (i := 3) (by decide +kernel) (by decide +kernel)
theorem W_sysI : Cond.initialized "java/lang/System" ∈ tbG := tb_in (i := 13) (by decide +kernel) (by decide +kernel)
theorem W_acS : Cond.static arraycopyName ∈ tbG := tb_in (i := 373) (by decide +kernel) (by decide +kernel)
theorem W_acN : Cond.native arraycopyName ∈ tbG := tb_in (i := 374) (by decide +kernel) (by decide +kernel)
theorem W_obI : Cond.instanceMethod Lib.objectInit ∈ tbG := tb_in (i := 27) (by decide +kernel) (by decide +kernel)
theorem W_obC : Cond.code Lib.objectInit ⟨#[0xb1]⟩ 1 none ∈ tbG := tb_in (i := 28) (by decide +kernel) (by decide +kernel)
