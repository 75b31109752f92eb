/-! the start: what stands still, out of what the statement gives -/
def NF : List Cond := flatC narrow_1
def bi_N : List String := ["DEFINE", "PUSHDEF", "UNDEFINE", "POPDEF", "IFDEF", "IFELSE", "EVAL", "INCR", "DECR", "LEN", "INDEX", "SUBSTR", "SHIFT", "DNL", "DIVERT", "UNDIVERT", "CHANGEQUOTE"]
def bi_I : List Nat := [123, 127, 131, 135, 139, 143, 147, 151, 155, 159, 163, 167, 171, 175, 179, 183, 187]
def bi_K : List Nat := [83, 89, 92, 95, 98, 101, 104, 107, 110, 113, 116, 119, 122, 125, 128, 131, 134]
def bs_I : List Nat := [480, 492, 505, 516, 526, 537, 546, 555, 564, 572, 582, 593, 603, 611, 622, 635, 651]
def op_I : List Nat := [191, 196, 201, 206, 211, 216, 221, 226, 231, 236, 241, 246, 251, 256, 261, 266, 271, 276, 79, 83, 87, 91, 75]
def tx_K : List Nat := [154, 156, 158, 160, 162, 164, 166, 168, 170, 172, 174, 176, 178, 180, 182, 184, 186, 101, 107, 110, 113, 116, 119, 122, 125, 128, 131, 134, 137, 140, 143, 146, 149, 152, 155, 160, 163, 166]
def tx_I : List Nat := [280, 290, 301, 313, 323, 332, 342, 350, 358, 366, 373, 382, 392, 401, 408, 418, 430, 652, 658, 664, 670, 676, 682, 688, 694, 700, 705, 710, 715, 720, 450, 455, 725, 730, 735, 460, 465, 445]
def ls_I : List Nat := [1361, 1362, 1363, 1364, 1365, 1366, 1367, 1368, 1369, 1370, 1371, 1372, 1373, 1374, 1375, 1376, 1377, 1378, 790, 792, 794, 796, 788]
def sr_I : List Nat := [1088, 1089, 1090, 1091, 1092, 1093, 1094, 1095, 1096, 1097, 1098, 1099, 1100, 1101, 1102, 1103, 1104]
def tmB (i : Nat) : Term := .static "RescanMill$BuiltIn" (bi_N.getD i "") "LRescanMill$BuiltIn;"
def tmO (i : Nat) : Term := .static "RescanMill$Operator" (op_N.getD i "") "LRescanMill$Operator;"
def tmS (i : Nat) : Term := .string (if i < 17 then "RescanMillModel" else "RescanMill$Operator") (tx_K.getD i 0)
def tmV (i : Nat) : Term := .field (tmS i) "java/lang/String" "value" "[B"
theorem nB1 : ∀ i, i < 17 → NF[bi_I.getD i 0]? = some (.exactly (tmB i) "RescanMill$BuiltIn") := by decide +kernel
theorem nB2 : ∀ i, i < 17 → NF[bi_I.getD i 0 + 1]? = some (.eq (.field (tmB i) "java/lang/Enum" "ordinal" "I") (.int (nI i))) := by decide +kernel
theorem nB3 : ∀ i, i < 17 → NF[bi_I.getD i 0 + 2]? = some (.eq (.field (tmB i) "RescanMill$BuiltIn" "spelled" "Ljava/lang/String;") (.string "RescanMill$BuiltIn" (bi_K.getD i 0))) := by decide +kernel
theorem nB4 : ∀ i, i < 17 → NF[bi_I.getD i 0 + 3]? = some (.eq (.field (tmB i) "RescanMill$BuiltIn" "starred" "Z") (.int (if i < 13 then 1 else 0))) := by decide +kernel
theorem nB5 : ∀ i, i < 17 → NF[bs_I.getD i 0]? = some (.eq (tmS i) (.string "RescanMill$BuiltIn" (bi_K.getD i 0))) := by decide +kernel
theorem nO1 : ∀ i, i < 23 → NF[op_I.getD i 0]? = some (.exactly (tmO i) "RescanMill$Operator") := by decide +kernel
theorem nO2 : ∀ i, i < 23 → NF[op_I.getD i 0 + 1]? = some (.eq (.field (tmO i) "java/lang/Enum" "ordinal" "I") (.int (nI i))) := by decide +kernel
theorem nO3 : ∀ i, i < 23 → NF[op_I.getD i 0 + 2]? = some (.eq (.field (tmO i) "RescanMill$Operator" "sign" "Ljava/lang/String;") (tmS (op_S.getD i 0))) := by decide +kernel
theorem nO4 : ∀ i, i < 23 → NF[op_I.getD i 0 + 3]? = some (.eq (.field (tmO i) "RescanMill$Operator" "strength" "I") (.int (op_T.getD i 0))) := by decide +kernel
theorem nO5 : ∀ i, i < 23 → tables_1[ls_I.getD i 0]? = some (.laysStatic "RescanMill$Operator" (op_N.getD i "") "LRescanMill$Operator;") := by decide +kernel
theorem nS1 : ∀ i, i < 38 → NF[tx_I.getD i 0]? = some (.exactly (tmS i) "java/lang/String") := by decide +kernel
theorem nS2 : ∀ i, i < 38 → NF[tx_I.getD i 0 + 1]? = some (.eq (.field (tmS i) "java/lang/String" "coder" "B") (.int 0)) := by decide +kernel
theorem nS3 : ∀ i, i < 38 → NF[tx_I.getD i 0 + 2]? = some (.arrayOf (tmV i) .byte) := by decide +kernel
theorem nS4 : ∀ i, i < 38 → NF[tx_I.getD i 0 + 3]? = some (.eq (.length (tmV i)) (.int (Int32.ofNat (sx_B.getD i []).length))) := by decide +kernel
theorem nS5 : ∀ i, i < 38 → ∀ j, j < (sx_B.getD i []).length → NF[tx_I.getD i 0 + 4 + j]? = some (.eq (.elem (tmV i) (.int (Int32.ofNat j))) (.int ((sx_B.getD i []).getD j 0))) := by decide +kernel
theorem nS6 : ∀ i, i < 38 → (sx_B.getD i []).length < 20 := by decide +kernel
theorem nS7 : ∀ i, i < 17 → tables_1[sr_I.getD i 0]? = some (.stringRef "RescanMillModel" (rf_K.getD i 0) (sx_N.getD i "")) := by decide +kernel
theorem nS8 : ∀ i, i < 17 → tmS i = .string "RescanMillModel" (rf_K.getD i 0) := by decide +kernel
theorem nS9 : ∀ i, i < 23 → op_S.getD i 0 < 38 := by decide +kernel
theorem nBI1 : NF[4]? = some (.arrayOf (.static "RescanMill" "BUILT_INS" "[LRescanMill$BuiltIn;") (.object "RescanMill$BuiltIn")) := by decide +kernel
theorem nBI2 : NF[5]? = some (.eq (.length (.static "RescanMill" "BUILT_INS" "[LRescanMill$BuiltIn;")) (.int (Int32.ofNat 17))) := by decide +kernel
theorem nBI3 : ∀ i, i < 17 → NF[7 + i]? = some (.eq (.elem (.static "RescanMill" "BUILT_INS" "[LRescanMill$BuiltIn;") (.int (Int32.ofNat i))) (tmB i)) := by decide +kernel
theorem nBI4 : tables_1[184]? = some (.laysStatic "RescanMill" "BUILT_INS" "[LRescanMill$BuiltIn;") := by decide +kernel
theorem nOP1 : NF[97]? = some (.arrayOf (.static "RescanMill" "OPERATORS" "[LRescanMill$Operator;") (.object "RescanMill$Operator")) := by decide +kernel
theorem nOP2 : NF[98]? = some (.eq (.length (.static "RescanMill" "OPERATORS" "[LRescanMill$Operator;")) (.int (Int32.ofNat 23))) := by decide +kernel
theorem nOP3 : ∀ i, i < 23 → NF[100 + i]? = some (.eq (.elem (.static "RescanMill" "OPERATORS" "[LRescanMill$Operator;") (.int (Int32.ofNat i))) (tmO i)) := by decide +kernel
theorem nOP4 : tables_1[814]? = some (.laysStatic "RescanMill" "OPERATORS" "[LRescanMill$Operator;") := by decide +kernel
theorem nSB1 : NF[30]? = some (.arrayOf (.static "RescanMill$1" "$SwitchMap$RescanMill$BuiltIn" "[I") .int) := by decide +kernel
theorem nSB2 : NF[31]? = some (.eq (.length (.static "RescanMill$1" "$SwitchMap$RescanMill$BuiltIn" "[I")) (.int (Int32.ofNat 17))) := by decide +kernel
theorem nSB3 : ∀ i, i < 17 → NF[32 + i]? = some (.eq (.elem (.static "RescanMill$1" "$SwitchMap$RescanMill$BuiltIn" "[I") (.int (Int32.ofNat i))) (.int (sw_B.getD i 0))) := by decide +kernel
theorem nSB4 : tables_1[692]? = some (.laysStatic "RescanMill$1" "$SwitchMap$RescanMill$BuiltIn" "[I") := by decide +kernel
theorem nSO1 : NF[50]? = some (.arrayOf (.static "RescanMill$1" "$SwitchMap$RescanMill$Operator" "[I") .int) := by decide +kernel
theorem nSO2 : NF[51]? = some (.eq (.length (.static "RescanMill$1" "$SwitchMap$RescanMill$Operator" "[I")) (.int (Int32.ofNat 23))) := by decide +kernel
theorem nSO3 : ∀ i, i < 23 → NF[52 + i]? = some (.eq (.elem (.static "RescanMill$1" "$SwitchMap$RescanMill$Operator" "[I") (.int (Int32.ofNat i))) (.int (sw_O.getD i 0))) := by decide +kernel
theorem nSO4 : tables_1[771]? = some (.laysStatic "RescanMill$1" "$SwitchMap$RescanMill$Operator" "[I") := by decide +kernel
theorem nI_Mi : tables_1[1]? = some (.initialized "RescanMill") := by decide +kernel
theorem nI_X1 : tables_1[18]? = some (.initialized "RescanMill$1") := by decide +kernel
theorem nI_Op : tables_1[20]? = some (.initialized "RescanMill$Operator") := by decide +kernel
theorem nI_St : tables_1[14]? = some (.initialized "java/lang/String") := by decide +kernel
theorem nI_Pr : tables_1[16]? = some (.initialized "jdk/internal/util/Preconditions") := by decide +kernel
theorem nCS1 : NF[24]? = some (.eq (.static "java/lang/String" "COMPACT_STRINGS" "Z") (.int 1)) := by decide +kernel
theorem nCS2 : tables_1[439]? = some (.laysStatic "java/lang/String" "COMPACT_STRINGS" "Z") := by decide +kernel
theorem nSI1 : NF[25]? = some (.isRef (.static "jdk/internal/util/Preconditions" "SIOOBE_FORMATTER" "Ljava/util/function/BiFunction;")) := by decide +kernel
theorem nSI2 : tables_1[455]? = some (.laysStatic "jdk/internal/util/Preconditions" "SIOOBE_FORMATTER" "Ljava/util/function/BiFunction;") := by decide +kernel
/-- the address that a term stands for -/
def cvT (A : Array Value) (s : State) (t : Term) : Nat := match t.eval A s none [] s with
  | some (.ref a) => a
  | _ => 0
theorem cvT_of {A : Array Value} {s : State} {t : Term} {a : Nat} (h : t.eval A s none [] s = some (.ref a)) : cvT A s t = a := by rw [cvT, h]
def tmC (c : Nat) : Term := if c < 1048600 then tmB (c - 1048576) else if c < 1048640 then tmO (c - 1048600) else if c < 1048700 then tmS (c - 1048640) else if c < 1048750 then tmV (c - 1048700) else if c = 1048750 then (.static "RescanMill" "BUILT_INS" "[LRescanMill$BuiltIn;") else if c = 1048751 then (.static "RescanMill" "OPERATORS" "[LRescanMill$Operator;") else if c = 1048752 then (.static "RescanMill$1" "$SwitchMap$RescanMill$BuiltIn" "[I") else if c = 1048753 then (.static "RescanMill$1" "$SwitchMap$RescanMill$Operator" "[I") else if c = 1048754 then .static "jdk/internal/util/Preconditions" "SIOOBE_FORMATTER" "Ljava/util/function/BiFunction;" else .arg 0
theorem tmC_B {i : Nat} (h : i < 17) : tmC (1048576 + i) = tmB i := by rw [tmC, if_pos (by omega), Nat.add_sub_cancel_left]
theorem tmC_O {i : Nat} (h : i < 23) : tmC (1048600 + i) = tmO i := by rw [tmC, if_neg (by omega), if_pos (by omega), Nat.add_sub_cancel_left]
theorem tmC_S {i : Nat} (h : i < 38) : tmC (1048640 + i) = tmS i := by rw [tmC, if_neg (by omega), if_neg (by omega), if_pos (by omega), Nat.add_sub_cancel_left]
theorem tmC_V {i : Nat} (h : i < 38) : tmC (1048700 + i) = tmV i := by rw [tmC, if_neg (by omega), if_neg (by omega), if_neg (by omega), if_pos (by omega), Nat.add_sub_cancel_left]
set_option maxHeartbeats 4000000 in
set_option maxRecDepth 100000 in
theorem SF_of {s : State} {A : Array Value} {q : ev_T} (hq1 : s.heap.size ≤ q.1) (hq : ∀ c, 1048576 ≤ c → q.2.2.2 c = cvT A s (tmC c)) (hn : ∀ c ∈ NF, c.before A s = true) (ht : ∀ w ∈ tables_1, w.before A s = true) : SF q s s.heap := by
  have hs : ∀ (i : Nat) (w : Cond), NF[i]? = some w → w.before A s = true := fun i w h => hn w (List.mem_of_getElem? h)
  have hts : ∀ (i : Nat) (w : Cond), tables_1[i]? = some w → w.before A s = true := fun i w h => ht w (List.mem_of_getElem? h)
  have hA : ∀ a : Nat, a < s.heap.size → ¬ (fun a => q.1 ≤ a) a := fun a ha z => by have : q.1 ≤ a := z; omega
  have ad : ∀ (c a : Nat), 1048576 ≤ c → (tmC c).eval A s none [] s = some (.ref a) → (tmC c).eval A s none [] s = some (.ref (ev_ad q c)) := fun c a hc h => by
    rw [ev_hi hc, hq c hc, cvT_of h]; exact h
  have ex : ∀ (t : Term) (nm : String), (Cond.exactly t nm).before A s = true → ∃ a, t.eval A s none [] s = some (.ref a) := fun t nm h => by
    obtain ⟨a2, c, cA, kA, q1, -⟩ := Cond.exactly_spec (args := A) (first := s) (o := none) (s := s) (idx := []) (t := t) (cls := nm) h
    exact ⟨a2, q1⟩
  have eB : ∀ i, i < 17 → (tmB i).eval A s none [] s = some (.ref (ev_ad q (1048576 + i))) := fun i hi => by
    obtain ⟨a, ha⟩ := ex _ _ (hs _ _ (nB1 i hi))
    have := ad (1048576 + i) a (by omega) (by rw [tmC_B hi]; exact ha)
    rw [tmC_B hi] at this; exact this
  have eO : ∀ i, i < 23 → (tmO i).eval A s none [] s = some (.ref (ev_ad q (1048600 + i))) := fun i hi => by
    obtain ⟨a, ha⟩ := ex _ _ (hs _ _ (nO1 i hi))
    have := ad (1048600 + i) a (by omega) (by rw [tmC_O hi]; exact ha)
    rw [tmC_O hi] at this; exact this
  have eS : ∀ i, i < 38 → (tmS i).eval A s none [] s = some (.ref (ev_ad q (1048640 + i))) := fun i hi => by
    obtain ⟨a, ha⟩ := ex _ _ (hs _ _ (nS1 i hi))
    have := ad (1048640 + i) a (by omega) (by rw [tmC_S hi]; exact ha)
    rw [tmC_S hi] at this; exact this
  have eT : ∀ (c n : Nat) (ty : FieldType) (f : Nat → Value), 1048576 ≤ c → n < 2 ^ 31 → (Cond.arrayOf (tmC c) ty).before A s = true → (Cond.eq (.length (tmC c)) (.int (Int32.ofNat n))).before A s = true → (∀ j : Nat, j < n → (Term.elem (tmC c) (.int (Int32.ofNat j))).eval A s none [] s = some (f j)) → (tmC c).eval A s none [] s = some (.ref (ev_ad q c)) ∧ va_T ty (ev_ad q c) n f (fun a => q.1 ≤ a) s s.heap := fun c n ty f hc hn2 h1 h2 h3 => by
    obtain ⟨t, ht2, hT⟩ := va_Tof (f := f) (A := fun a => q.1 ≤ a) hn2 h1 (va_eqt h2) h3 hA
    have e := ad c t hc ht2
    cases ht2.symm.trans e
    exact ⟨e, hT⟩
  have eV : ∀ i, i < 38 → (tmV i).eval A s none [] s = some (.ref (ev_ad q (1048700 + i))) ∧ va_T .byte (ev_ad q (1048700 + i)) (sx_B.getD i []).length (fun j => .int ((sx_B.getD i []).getD j 0)) (fun a => q.1 ≤ a) s s.heap := fun i hi => by
    have := eT (1048700 + i) (sx_B.getD i []).length .byte (fun j => .int ((sx_B.getD i []).getD j 0)) (by omega) (by have := nS6 i hi; omega) (by rw [tmC_V hi]; exact hs _ _ (nS3 i hi)) (by rw [tmC_V hi]; exact hs _ _ (nS4 i hi)) (fun j hj => by rw [tmC_V hi]; exact va_eqt (hs _ _ (nS5 i hi j hj)))
    rw [tmC_V hi] at this; exact this
  refine ⟨fun i hi => ⟨va_Oof (hs _ _ (nB1 i hi)) (eB i hi) hA, vk_OFof (eB i hi) (va_eqt (hs _ _ (nB2 i hi))) hA, vk_OFof (eB i hi) (va_eqt (hs _ _ (nB4 i hi))) hA, vk_OFof (eB i hi) (va_eqv (hs _ _ (nB3 i hi)) (va_eqR (hs _ _ (nB5 i hi)) (eS i (by omega)))) hA⟩, fun i hi => ⟨va_Oof (hs _ _ (nO1 i hi)) (eO i hi) hA, vk_OFof (eO i hi) (va_eqt (hs _ _ (nO2 i hi))) hA, vk_OFof (eO i hi) (va_eqt (hs _ _ (nO4 i hi))) hA, vk_OFof (eO i hi) (va_eqv (hs _ _ (nO3 i hi)) (eS _ (nS9 i hi))) hA, va_Zref (hts _ _ (nO5 i hi)) (hts _ _ nI_Op) (eO i hi) hA⟩, fun i hi => ⟨va_Oof (hs _ _ (nS1 i hi)) (eS i hi) hA, vk_OFof (eS i hi) (va_eqt (hs _ _ (nS2 i hi))) hA, vk_OFof (eS i hi) (eV i hi).1 hA, (eV i hi).2⟩, ?_, ?_, ?_, ?_, ⟨va_Zof (hts _ _ nCS2) (hts _ _ nI_St) (va_eqi (hs _ _ nCS1)) hA, ?_⟩, fun i hi => ?_⟩
  · have := eT 1048750 17 (.object "RescanMill$BuiltIn") (fun j => .ref (ev_ad q (1048576 + j))) (by decide) (by decide) (hs _ _ nBI1) (hs _ _ nBI2) (fun j hj => va_eqv (hs _ _ (nBI3 j hj)) (eB j hj))
    exact ⟨va_Zref (hts _ _ nBI4) (hts _ _ nI_Mi) this.1 hA, this.2⟩
  · have := eT 1048751 23 (.object "RescanMill$Operator") (fun j => .ref (ev_ad q (1048600 + j))) (by decide) (by decide) (hs _ _ nOP1) (hs _ _ nOP2) (fun j hj => va_eqv (hs _ _ (nOP3 j hj)) (eO j hj))
    exact ⟨va_Zref (hts _ _ nOP4) (hts _ _ nI_Mi) this.1 hA, this.2⟩
  · have := eT 1048752 17 .int (fun j => .int (sw_B.getD j 0)) (by decide) (by decide) (hs _ _ nSB1) (hs _ _ nSB2) (fun j hj => va_eqt (hs _ _ (nSB3 j hj)))
    exact ⟨va_Zref (hts _ _ nSB4) (hts _ _ nI_X1) this.1 hA, this.2⟩
  · have := eT 1048753 23 .int (fun j => .int (sw_O.getD j 0)) (by decide) (by decide) (hs _ _ nSO1) (hs _ _ nSO2) (fun j hj => va_eqt (hs _ _ (nSO3 j hj)))
    exact ⟨va_Zref (hts _ _ nSO4) (hts _ _ nI_X1) this.1 hA, this.2⟩
  · have hi := hs _ _ nSI1
    cases hv : (Term.static "jdk/internal/util/Preconditions" "SIOOBE_FORMATTER" "Ljava/util/function/BiFunction;").eval A s none [] s with
    | none => simp [Cond.before, Cond.holds, Cond.value, hv] at hi
    | some w =>
      simp only [Cond.before, Cond.holds, Cond.value, hv] at hi
      cases w with
      | null => exact Or.inl (va_Zof (hts _ _ nSI2) (hts _ _ nI_Pr) hv hA)
      | ref t =>
        have e := ad 1048754 t (by decide) hv
        exact Or.inr (va_Zof (hts _ _ nSI2) (hts _ _ nI_Pr) e hA)
      | _ => simp at hi
  · have e := eS i (by omega)
    rw [nS8 i hi] at e
    exact vk_R.of (hts _ _ (nS7 i hi)) e
