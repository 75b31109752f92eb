def tbG : List Cond := lw_tbl.filter goodWord
theorem tbG_good : ∀ w ∈ tbG, (w.onTables && w.keeps) = true ∨ ∃ ty, w = .arrayClass ty := fun w h => good_of_word (List.mem_filter.mp h).2
theorem tb_in {i : Nat} {w : Cond} (h : tables_1[i]? = some w) (g : goodWord w = true) : w ∈ tbG := List.mem_filter.mpr ⟨List.mem_append_right _ (List.mem_of_getElem? h), g⟩
theorem ts_in {i : Nat} {w : Cond} (h : (k2_sels lw_privs)[i]? = some w) (g : goodWord w = true) : w ∈ tbG := List.mem_filter.mpr ⟨List.mem_append_left _ (List.mem_of_getElem? h), g⟩
theorem in_ps {ws : List Cond} (ps : List Nat) (hp : ws = ps.filterMap (fun i => tables_1[i]?)) (hg : ws.all goodWord = true) : ∀ w ∈ ws, w ∈ tbG := by
  intro w hw
  have h1 := List.all_eq_true.mp hg w hw
  rw [hp] at hw
  obtain ⟨i, -, hi⟩ := List.mem_filterMap.mp hw
  exact tb_in hi h1
def T_Mi : u_T := fun k => match k with
  | 0 => ("RescanMill", "text", "LRescanMill$Bytes;", true)
  | 1 => ("RescanMill", "out", "LRescanMill$Bytes;", true)
  | 2 => ("RescanMill", "result", "LRescanMill$Bytes;", true)
  | 3 => ("RescanMill", "input", "LRescanMill$Input;", true)
  | 4 => ("RescanMill", "calls", "LRescanMill$Calls;", true)
  | 5 => ("RescanMill", "meanings", "LRescanMill$Meanings;", true)
  | 6 => ("RescanMill", "diversions", "LRescanMill$Diversions;", true)
  | 7 => ("RescanMill", "expression", "LRescanMill$Expression;", true)
  | 8 => ("RescanMill", "fallBack", "[I", true)
  | _ => ("RescanMill", "errorLine", "I", false)
def T_By : u_T := fun k => match k with
  | 0 => ("RescanMill$Bytes", "row", "[B", true)
  | 1 => ("RescanMill$Bytes", "count", "I", false)
  | _ => ("RescanMill$Bytes", "over", "Z", false)
def T_Ca : u_T := fun k => match k with
  | 0 => ("RescanMill$Calls", "held", "LRescanMill$Bytes;", true)
  | 1 => ("RescanMill$Calls", "open", "I", false)
  | 2 => ("RescanMill$Calls", "complete", "Z", false)
  | 3 => ("RescanMill$Calls", "argumentStarts", "[I", true)
  | 4 => ("RescanMill$Calls", "argumentsHeld", "I", false)
  | 5 => ("RescanMill$Calls", "nameStarts", "[I", true)
  | 6 => ("RescanMill$Calls", "firstArguments", "[I", true)
  | 7 => ("RescanMill$Calls", "nested", "[I", true)
  | _ => ("RescanMill$Calls", "tokenCame", "[Z", true)
def T_Ce : u_T := fun k => match k with
  | 0 => ("RescanMill$Cells", "bytes", "[B", true)
  | 1 => ("RescanMill$Cells", "next", "[I", true)
  | 2 => ("RescanMill$Cells", "fresh", "I", false)
  | 3 => ("RescanMill$Cells", "free", "I", false)
  | _ => ("RescanMill$Cells", "used", "I", false)
def T_Ch : u_T := fun k => match k with
  | 0 => ("RescanMill$Chain", "first", "I", false)
  | 1 => ("RescanMill$Chain", "last", "I", false)
  | _ => ("RescanMill$Chain", "count", "I", false)
def T_Di : u_T := fun k => match k with
  | 0 => ("RescanMill$Diversions", "current", "I", false)
  | 1 => ("RescanMill$Diversions", "cells", "LRescanMill$Cells;", true)
  | _ => ("RescanMill$Diversions", "chains", "[LRescanMill$Chain;", true)
def T_Ex : u_T := fun k => match k with
  | 0 => ("RescanMill$Expression", "source", "LRescanMill$Bytes;", false)
  | 1 => ("RescanMill$Expression", "at", "I", false)
  | 2 => ("RescanMill$Expression", "end", "I", false)
  | 3 => ("RescanMill$Expression", "values", "[I", true)
  | 4 => ("RescanMill$Expression", "valueCount", "I", false)
  | 5 => ("RescanMill$Expression", "waiting", "[LRescanMill$Operator;", true)
  | 6 => ("RescanMill$Expression", "waitingCount", "I", false)
  | 7 => ("RescanMill$Expression", "nested", "I", false)
  | 8 => ("RescanMill$Expression", "valueDue", "Z", false)
  | _ => ("RescanMill$Expression", "byZero", "Z", false)
def T_In : u_T := fun k => match k with
  | 0 => ("RescanMill$Input", "opening", "LRescanMill$Bytes;", true)
  | 1 => ("RescanMill$Input", "closing", "LRescanMill$Bytes;", true)
  | 2 => ("RescanMill$Input", "token", "LRescanMill$Bytes;", true)
  | 3 => ("RescanMill$Input", "kind", "I", false)
  | 4 => ("RescanMill$Input", "tokenLine", "I", false)
  | 5 => ("RescanMill$Input", "taken", "I", false)
  | 6 => ("RescanMill$Input", "text", "LRescanMill$Bytes;", false)
  | 7 => ("RescanMill$Input", "textAt", "I", false)
  | 8 => ("RescanMill$Input", "back", "[B", true)
  | 9 => ("RescanMill$Input", "backAt", "I", false)
  | 10 => ("RescanMill$Input", "fuel", "I", false)
  | _ => ("RescanMill$Input", "lines", "I", false)
def T_Me : u_T := fun k => match k with
  | 0 => ("RescanMill$Meaning", "name", "LRescanMill$Chain;", true)
  | 1 => ("RescanMill$Meaning", "text", "LRescanMill$Chain;", true)
  | 2 => ("RescanMill$Meaning", "builtIn", "LRescanMill$BuiltIn;", false)
  | 3 => ("RescanMill$Meaning", "hash", "I", false)
  | _ => ("RescanMill$Meaning", "next", "LRescanMill$Meaning;", false)
def T_Ms : u_T := fun k => match k with
  | 0 => ("RescanMill$Meanings", "cells", "LRescanMill$Cells;", true)
  | 1 => ("RescanMill$Meanings", "defined", "I", false)
  | 2 => ("RescanMill$Meanings", "definedBytes", "I", false)
  | 3 => ("RescanMill$Meanings", "buckets", "[LRescanMill$Meaning;", true)
  | 4 => ("RescanMill$Meanings", "all", "[LRescanMill$Meaning;", true)
  | _ => ("RescanMill$Meanings", "spare", "LRescanMill$Meaning;", false)
def T_Rf : u_T := fun k => match k with
  | 0 => ("RescanMillModel", "textSize", "I", false)
  | 1 => ("RescanMillModel", "text", "[B", true)
  | 2 => ("RescanMillModel", "error", "I", false)
  | 3 => ("RescanMillModel", "errorLine", "I", false)
  | 4 => ("RescanMillModel", "tokensRead", "I", false)
  | 5 => ("RescanMillModel", "out", "[B", true)
  | 6 => ("RescanMillModel", "outSize", "I", false)
  | 7 => ("RescanMillModel", "input", "[B", true)
  | 8 => ("RescanMillModel", "inputAt", "I", false)
  | 9 => ("RescanMillModel", "mainLeft", "I", false)
  | 10 => ("RescanMillModel", "line", "I", false)
  | 11 => ("RescanMillModel", "fuel", "I", false)
  | 12 => ("RescanMillModel", "open", "[I", true)
  | 13 => ("RescanMillModel", "openSize", "I", false)
  | 14 => ("RescanMillModel", "close", "[I", true)
  | 15 => ("RescanMillModel", "closeSize", "I", false)
  | 16 => ("RescanMillModel", "kind", "I", false)
  | 17 => ("RescanMillModel", "token", "[B", true)
  | 18 => ("RescanMillModel", "tokenSize", "I", false)
  | 19 => ("RescanMillModel", "given", "[B", true)
  | 20 => ("RescanMillModel", "givenSize", "I", false)
  | 21 => ("RescanMillModel", "meanings", "I", false)
  | 22 => ("RescanMillModel", "meaningAt", "[I", true)
  | 23 => ("RescanMillModel", "meaningName", "[I", true)
  | 24 => ("RescanMillModel", "meaningText", "[I", true)
  | 25 => ("RescanMillModel", "builtIn", "[I", true)
  | 26 => ("RescanMillModel", "texts", "[B", true)
  | 27 => ("RescanMillModel", "textsSize", "I", false)
  | 28 => ("RescanMillModel", "defined", "I", false)
  | 29 => ("RescanMillModel", "definedBytes", "I", false)
  | 30 => ("RescanMillModel", "diverted", "[B", true)
  | 31 => ("RescanMillModel", "divertedSize", "[I", true)
  | 32 => ("RescanMillModel", "divertedAll", "I", false)
  | 33 => ("RescanMillModel", "current", "I", false)
  | 34 => ("RescanMillModel", "calls", "I", false)
  | 35 => ("RescanMillModel", "arguments", "[B", true)
  | 36 => ("RescanMillModel", "argumentsSize", "I", false)
  | 37 => ("RescanMillModel", "starts", "I", false)
  | 38 => ("RescanMillModel", "start", "[I", true)
  | 39 => ("RescanMillModel", "place", "I", false)
  | 40 => ("RescanMillModel", "stop", "I", false)
  | 41 => ("RescanMillModel", "wrong", "Z", false)
  | 42 => ("RescanMillModel", "divided", "Z", false)
  | 43 => ("RescanMillModel", "nested", "I", false)
  | 44 => ("RescanMillModel", "waiting", "I", false)
  | 45 => ("RescanMillModel", "waitingSign", "[I", true)
  | _ => ("RescanMillModel", "waitingValue", "[I", true)
def vwCl : List vw_C := [("RescanMill", T_Mi, 10), ("RescanMill$Bytes", T_By, 3), ("RescanMill$Calls", T_Ca, 9), ("RescanMill$Cells", T_Ce, 5), ("RescanMill$Chain", T_Ch, 3), ("RescanMill$Diversions", T_Di, 3), ("RescanMill$Expression", T_Ex, 10), ("RescanMill$Input", T_In, 12), ("RescanMill$Meaning", T_Me, 5), ("RescanMill$Meanings", T_Ms, 6), ("RescanMillModel", T_Rf, 47)]
def nfT (ci : Nat) : Nat := match ci with
  | 0 => 10
  | 1 => 3
  | 2 => 9
  | 3 => 5
  | 4 => 3
  | 5 => 3
  | 6 => 10
  | 7 => 12
  | 8 => 5
  | 9 => 6
  | 10 => 47
  | _ => 0
def f_Mi : List (Nat × FieldType) := [(2, .object "RescanMill$Bytes"), (2, .object "RescanMill$Bytes"), (2, .object "RescanMill$Bytes"), (2, .object "RescanMill$Input"), (2, .object "RescanMill$Calls"), (2, .object "RescanMill$Meanings"), (2, .object "RescanMill$Diversions"), (2, .object "RescanMill$Expression"), (2, .array .int), (0, .int)]
def f_By : List (Nat × FieldType) := [(2, .array .byte), (0, .int), (0, .boolean)]
def f_Ca : List (Nat × FieldType) := [(2, .object "RescanMill$Bytes"), (0, .int), (0, .boolean), (2, .array .int), (0, .int), (2, .array .int), (2, .array .int), (2, .array .int), (2, .array .boolean)]
def f_Ce : List (Nat × FieldType) := [(2, .array .byte), (2, .array .int), (0, .int), (0, .int), (0, .int)]
def f_Ch : List (Nat × FieldType) := [(0, .int), (0, .int), (0, .int)]
def f_Di : List (Nat × FieldType) := [(0, .int), (2, .object "RescanMill$Cells"), (2, .array (.object "RescanMill$Chain"))]
def f_Ex : List (Nat × FieldType) := [(1, .object "RescanMill$Bytes"), (0, .int), (0, .int), (2, .array .int), (0, .int), (2, .array (.object "RescanMill$Operator")), (0, .int), (0, .int), (0, .boolean), (0, .boolean)]
def f_In : List (Nat × FieldType) := [(2, .object "RescanMill$Bytes"), (2, .object "RescanMill$Bytes"), (2, .object "RescanMill$Bytes"), (0, .int), (0, .int), (0, .int), (1, .object "RescanMill$Bytes"), (0, .int), (2, .array .byte), (0, .int), (0, .int), (0, .int)]
def f_Me : List (Nat × FieldType) := [(2, .object "RescanMill$Chain"), (2, .object "RescanMill$Chain"), (1, .object "RescanMill$BuiltIn"), (0, .int), (1, .object "RescanMill$Meaning")]
def f_Ms : List (Nat × FieldType) := [(2, .object "RescanMill$Cells"), (0, .int), (0, .int), (2, .array (.object "RescanMill$Meaning")), (2, .array (.object "RescanMill$Meaning")), (1, .object "RescanMill$Meaning")]
def f_Rf : List (Nat × FieldType) := [(0, .int), (2, .array .byte), (0, .int), (0, .int), (0, .int), (2, .array .byte), (0, .int), (2, .array .byte), (0, .int), (0, .int), (0, .int), (0, .int), (2, .array .int), (0, .int), (2, .array .int), (0, .int), (0, .int), (2, .array .byte), (0, .int), (2, .array .byte), (0, .int), (0, .int), (2, .array .int), (2, .array .int), (2, .array .int), (2, .array .int), (2, .array .byte), (0, .int), (0, .int), (0, .int), (2, .array .byte), (2, .array .int), (0, .int), (0, .int), (0, .int), (2, .array .byte), (0, .int), (0, .int), (2, .array .int), (0, .int), (0, .int), (0, .boolean), (0, .boolean), (0, .int), (0, .int), (2, .array .int), (2, .array .int)]
def fkT (ci : Nat) : List (Nat × FieldType) := match ci with
  | 0 => f_Mi
  | 1 => f_By
  | 2 => f_Ca
  | 3 => f_Ce
  | 4 => f_Ch
  | 5 => f_Di
  | 6 => f_Ex
  | 7 => f_In
  | 8 => f_Me
  | 9 => f_Ms
  | 10 => f_Rf
  | _ => []
def fsT (ci k : Nat) : Nat := ((fkT ci).getD k (0, .int)).1
def ftT (ci k : Nat) : FieldType := ((fkT ci).getD k (0, .int)).2
def tyT : List FieldType := [.int, .byte, .boolean, .object "RescanMill$Chain", .object "RescanMill$Meaning", .object "RescanMill$Operator"]
def kdT (i : Nat) : Nat ⊕ (Nat × Nat) := if 31 ≤ i ∧ i < 982 then (if (i - 31) % 3 = 0 then .inl 8 else .inl 4) else if 987 ≤ i ∧ i < 997 then .inl 4 else match i with
  | 0 => .inl 0
  | 1 => .inl 1
  | 2 => .inr (1, 32768)
  | 3 => .inl 1
  | 4 => .inr (1, 32768)
  | 5 => .inl 1
  | 6 => .inr (1, 32768)
  | 7 => .inl 7
  | 8 => .inl 1
  | 9 => .inr (1, 4)
  | 10 => .inl 1
  | 11 => .inr (1, 4)
  | 12 => .inl 1
  | 13 => .inr (1, 32768)
  | 14 => .inl 1
  | 15 => .inr (1, 0)
  | 16 => .inr (1, 32768)
  | 17 => .inl 2
  | 18 => .inl 1
  | 19 => .inr (1, 16384)
  | 20 => .inr (0, 8192)
  | 21 => .inr (0, 50)
  | 22 => .inr (0, 50)
  | 23 => .inr (0, 50)
  | 24 => .inr (2, 50)
  | 25 => .inl 9
  | 26 => .inl 3
  | 27 => .inr (1, 16512)
  | 28 => .inr (0, 16512)
  | 29 => .inr (4, 128)
  | 30 => .inr (4, 317)
  | 982 => .inl 5
  | 983 => .inl 3
  | 984 => .inr (1, 32768)
  | 985 => .inr (0, 32768)
  | 986 => .inr (3, 10)
  | 997 => .inl 6
  | 998 => .inl 1
  | 999 => .inr (1, 0)
  | 1000 => .inr (0, 342)
  | 1001 => .inr (5, 341)
  | 1002 => .inr (0, 8192)
  | 1003 => .inl 10
  | 1004 => .inr (1, 32768)
  | 1005 => .inr (1, 32768)
  | 1006 => .inr (1, 32768)
  | 1007 => .inr (0, 4)
  | 1008 => .inr (0, 4)
  | 1009 => .inr (1, 32768)
  | 1010 => .inr (1, 32769)
  | 1011 => .inr (0, 340)
  | 1012 => .inr (0, 340)
  | 1013 => .inr (0, 340)
  | 1014 => .inr (0, 340)
  | 1015 => .inr (1, 16684)
  | 1016 => .inr (1, 327680)
  | 1017 => .inr (0, 10)
  | 1018 => .inr (1, 16385)
  | 1019 => .inr (0, 8300)
  | 1020 => .inr (0, 400)
  | 1021 => .inr (0, 400)
  | _ => .inl 4
def nstT : List Cond := [Cond.methodLinkNest "RescanMill" (29 : Nat) ({ cls := "RescanMill$Input", name := "<init>", desc := "()V" } : MethodName) "RescanMill", Cond.methodLinkNest "RescanMill" (36 : Nat) ({ cls := "RescanMill$Calls", name := "<init>", desc := "()V" } : MethodName) "RescanMill", Cond.fieldLinkNest "RescanMill$Meanings" (26 : Nat) "RescanMill" "BUILT_INS" "[LRescanMill$BuiltIn;" "RescanMill", Cond.methodLinkNest "RescanMill$Meanings" (33 : Nat) ({ cls := "RescanMill$Meaning", name := "<init>", desc := "()V" } : MethodName) "RescanMill", Cond.methodLinkNest "RescanMill$Meaning" (9 : Nat) ({ cls := "RescanMill$Chain", name := "<init>", desc := "()V" } : MethodName) "RescanMill", Cond.methodLinkNest "RescanMill$Diversions" (27 : Nat) ({ cls := "RescanMill$Chain", name := "<init>", desc := "()V" } : MethodName) "RescanMill", Cond.methodLinkNest "RescanMill" (57 : Nat) ({ cls := "RescanMill$Expression", name := "<init>", desc := "()V" } : MethodName) "RescanMill", Cond.methodLinkNest "RescanMill$Input" (108 : Nat) ({ cls := "RescanMill", name := "isLetter", desc := "(I)Z" } : MethodName) "RescanMill", Cond.methodLinkNest "RescanMill$Input" (119 : Nat) ({ cls := "RescanMill", name := "isNamePart", desc := "(I)Z" } : MethodName) "RescanMill", Cond.methodLinkNest "RescanMill$Expression" (44 : Nat) ({ cls := "RescanMill", name := "isSpace", desc := "(I)Z" } : MethodName) "RescanMill", Cond.methodLinkNest "RescanMill$Expression" (52 : Nat) ({ cls := "RescanMill", name := "isDigit", desc := "(I)Z" } : MethodName) "RescanMill", Cond.fieldLinkNest "RescanMill$Expression" (127 : Nat) "RescanMill" "OPERATORS" "[LRescanMill$Operator;" "RescanMill", Cond.arrayOver (.object "RescanMill$Chain"), Cond.arrayOver (.object "RescanMill$Meaning"), Cond.arrayOver (.object "RescanMill$Operator")]
theorem nst_ok : ∀ w ∈ nstT, (∃ a i b n d h, w = Cond.fieldLinkNest a i b n d h) ∨ (∃ a i x h, w = Cond.methodLinkNest a i x h) ∨ ∃ C, w = Cond.arrayOver (.object C) := by
  intro w hw
  simp only [nstT, List.mem_cons, List.not_mem_nil, or_false] at hw
  rcases hw with rfl | rfl | rfl | rfl | rfl | rfl | rfl | rfl | rfl | rfl | rfl | rfl | rfl | rfl | rfl
  · exact Or.inr (Or.inl ⟨_, _, _, _, rfl⟩)
  · exact Or.inr (Or.inl ⟨_, _, _, _, rfl⟩)
  · exact Or.inl ⟨_, _, _, _, _, _, rfl⟩
  · exact Or.inr (Or.inl ⟨_, _, _, _, rfl⟩)
  · exact Or.inr (Or.inl ⟨_, _, _, _, rfl⟩)
  · exact Or.inr (Or.inl ⟨_, _, _, _, rfl⟩)
  · exact Or.inr (Or.inl ⟨_, _, _, _, rfl⟩)
  · exact Or.inr (Or.inl ⟨_, _, _, _, rfl⟩)
  · exact Or.inr (Or.inl ⟨_, _, _, _, rfl⟩)
  · exact Or.inr (Or.inl ⟨_, _, _, _, rfl⟩)
  · exact Or.inr (Or.inl ⟨_, _, _, _, rfl⟩)
  · exact Or.inl ⟨_, _, _, _, _, _, rfl⟩
  · exact Or.inr (Or.inr ⟨_, rfl⟩)
  · exact Or.inr (Or.inr ⟨_, rfl⟩)
  · exact Or.inr (Or.inr ⟨_, rfl⟩)
