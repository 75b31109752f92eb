/-! the mill's state during a run -/
/-- the input; the quotes; the open calls, and whether the innermost is complete; the meanings and their counts; where it is diverted to, and what was diverted -/
abbrev Mst : Type := Ip × (List Int32 × List Int32) × (List Fr × Bool) × (Mng × Nat × Nat) × (Int32 × (Nat → List Int32))
def MW (g : mu_T) (fu : Nat) (S : Mst) : Prop := Shp g ∧ DR g ∧ MR g ∧ IQ g fu S.1 ∧ (∃ o, RB g 8 9 4 S.2.1.1 o) ∧ (∃ o, RB g 10 11 4 S.2.1.2 o) ∧ CA g S.2.2.1.1 S.2.2.1.2 ∧ MP g S.2.2.2.1.1 S.2.2.2.1.2.1 S.2.2.2.1.2.2 ∧ DV g S.2.2.2.2.1 S.2.2.2.2.2 ∧ (∃ F, RE g F) ∧ ∃ xs o, RB g 12 13 32768 xs o
theorem MW.gen {g w : mu_T} {U : List Nat} {fu : Nat} {S S' : Mst} (h : MW g fu S) (z : sm g w U) (h30 : 30 ∉ U) (h986 : 986 ∉ U)
    (hI : IQ w fu S'.1 ∨ (S'.1 = S.1 ∧ 1 ∉ U ∧ 2 ∉ U ∧ 7 ∉ U ∧ 16 ∉ U))
    (hq : ((∃ o, RB w 8 9 4 S'.2.1.1 o) ∧ ∃ o, RB w 10 11 4 S'.2.1.2 o) ∨ (S'.2.1 = S.2.1 ∧ 8 ∉ U ∧ 9 ∉ U ∧ 10 ∉ U ∧ 11 ∉ U))
    (hc : CA w S'.2.2.1.1 S'.2.2.1.2 ∨ (S'.2.2.1 = S.2.2.1 ∧ ∀ a ∈ CS, a ∉ U))
    (hm : MP w S'.2.2.2.1.1 S'.2.2.2.1.2.1 S'.2.2.2.1.2.2 ∨ (S'.2.2.2.1 = S.2.2.2.1 ∧ ∀ a, 25 ≤ a → a < 982 → a ∉ U))
    (hd : DV w S'.2.2.2.2.1 S'.2.2.2.2.2 ∨ (S'.2.2.2.2 = S.2.2.2.2 ∧ ∀ a ∈ DS, a ∉ U))
    (hr : (∃ F, RE w F) ∨ (5 ∉ U ∧ 6 ∉ U)) (ht : (∃ xs o, RB w 12 13 32768 xs o) ∨ (12 ∉ U ∧ 13 ∉ U)) : MW w fu S' := by
  obtain ⟨m1, m2, m3, m4, ⟨o5, m5⟩, ⟨o6, m6⟩, m7, m8, m9, ⟨F, m10⟩, ⟨xs, o11, m11⟩⟩ := h
  refine ⟨m1.sm z, m2.sm z h986, m3.sm z h30, ?_, ?_, ?_, ?_, ?_, ?_, ?_, ?_⟩
  · rcases hI with h | ⟨e, a, b, c, d⟩
    · exact h
    · rw [e]; exact m4.sm z a b c d
  · rcases hq with h | ⟨e, a, b, c, d⟩
    · exact h.1
    · rw [e]; exact ⟨o5, m5.sm z a b⟩
  · rcases hq with h | ⟨e, a, b, c, d⟩
    · exact h.2
    · rw [e]; exact ⟨o6, m6.sm z c d⟩
  · rcases hc with h | ⟨e, a⟩
    · exact h
    · rw [e]; exact m7.sm z a
  · rcases hm with h | ⟨e, a⟩
    · exact h
    · rw [e]; exact m8.sm z a
  · rcases hd with h | ⟨e, a⟩
    · exact h
    · rw [e]; exact m9.sm z a
  · rcases hr with h | ⟨a, b⟩
    · exact h
    · exact ⟨F, m10.sm z a b⟩
  · rcases ht with h | ⟨a, b⟩
    · exact h
    · exact ⟨xs, o11, m11.sm z a b⟩
/-- rows of bytes hold bytes -/
theorem RB_byte {g : mu_T} {b r n : Nat} {xs : List Int32} {ov : Bool} (h : mmB (0, 0, g)) (hB : RB g b r n xs ov) : ∀ x ∈ xs, isByte x := by
  intro x hx
  obtain ⟨j, hj, e⟩ := List.getElem_of_mem hx
  have h1 : gI g r j = x := by rw [hB.2.2.2.2 j hj, List.getD_eq_getElem?_getD, List.getElem?_eq_getElem hj, ← e]; rfl
  rw [← h1]
  exact h r n hB.1.2.2.2.1 j
theorem M25 (U : List Nat) (h : ∀ a ∈ U, a < 25 ∨ 982 ≤ a) : ∀ a, 25 ≤ a → a < 982 → a ∉ U := fun a h1 h2 h3 => by
  have := h a h3
  omega
def RN : List Nat := List.range' 5 998
theorem RN_mem {a : Nat} : a ∈ RN ↔ 5 ≤ a ∧ a < 1003 := by
  rw [RN, List.mem_range'_1]
theorem RN_of (U : List Nat) (h : ∀ a ∈ U, 5 ≤ a ∧ a < 1003) : ∀ a ∈ U, a ∈ RN := fun a ha => RN_mem.mpr (h a ha)
theorem RN_MA : ∀ a ∈ MA, a ∈ RN := fun a ha => RN_mem.mpr (by have := MA_mem.mp ha; omega)
/-- a built-in macro: the error, or 0; the state; what it gives -/
def bI (j : Nat) (S : Mst) (f : Fr) : Int32 × Mst × List Int32 := match j with
  | 0 => (if isNm (f.2.1.getD 0 []) = true then (if (dfn false (f.2.1.getD 0 []) (f.2.1.getD 1 []) S.2.2.2.1.1 S.2.2.2.1.2.1 S.2.2.2.1.2.2).isSome = true then 0 else 40) else 35, (S.1, S.2.1, S.2.2.1, (if isNm (f.2.1.getD 0 []) = true then (dfn false (f.2.1.getD 0 []) (f.2.1.getD 1 []) S.2.2.2.1.1 S.2.2.2.1.2.1 S.2.2.2.1.2.2).getD S.2.2.2.1 else S.2.2.2.1), S.2.2.2.2), [])
  | 1 => (if isNm (f.2.1.getD 0 []) = true then (if (dfn true (f.2.1.getD 0 []) (f.2.1.getD 1 []) S.2.2.2.1.1 S.2.2.2.1.2.1 S.2.2.2.1.2.2).isSome = true then 0 else 40) else 35, (S.1, S.2.1, S.2.2.1, (if isNm (f.2.1.getD 0 []) = true then (dfn true (f.2.1.getD 0 []) (f.2.1.getD 1 []) S.2.2.2.1.1 S.2.2.2.1.2.1 S.2.2.2.1.2.2).getD S.2.2.2.1 else S.2.2.2.1), S.2.2.2.2), [])
  | 2 => (0, (S.1, S.2.1, S.2.2.1, f.2.1.foldl (tkO true) S.2.2.2.1, S.2.2.2.2), [])
  | 3 => (0, (S.1, S.2.1, S.2.2.1, f.2.1.foldl (tkO false) S.2.2.2.1, S.2.2.2.2), [])
  | 4 => (0, S, if S.2.2.2.1.1 (f.2.1.getD 0 []) = [] then f.2.1.getD 2 [] else f.2.1.getD 1 [])
  | 5 => (0, S, ifX f.2.1)
  | 6 => ((evX (f.2.1.getD 0 [])).1, S, if (evX (f.2.1.getD 0 [])).1 = 0 then decB (evX (f.2.1.getD 0 [])).2 else [])
  | 7 => (match nmX (f.2.1.getD 0 []) with | none => 36 | some _ => 0, S, match nmX (f.2.1.getD 0 []) with | none => [] | some x => decB (x + 1))
  | 8 => (match nmX (f.2.1.getD 0 []) with | none => 36 | some _ => 0, S, match nmX (f.2.1.getD 0 []) with | none => [] | some x => decB (x + -1))
  | 9 => (0, S, decB (nI (f.2.1.getD 0 []).length))
  | 10 => (0, S, decB (plc (f.2.1.getD 0 []) (f.2.1.getD 1 [])))
  | 11 => (if (ctX f.2.1).isSome = true then 0 else 36, S, (ctX f.2.1).getD [])
  | 12 => (0, S, jn (qtd true S.2.1.1 S.2.1.2) (f.2.1.drop 1))
  | 13 => ((drL 32768 S.1).1, ((drL 32768 S.1).2, S.2), [])
  | 14 => (match nmX (f.2.1.getD 0 []) with | none => 36 | some v => if v < 10 then 0 else 36, (S.1, S.2.1, S.2.2.1, S.2.2.2.1, (match nmX (f.2.1.getD 0 []) with | none => S.2.2.2.2.1 | some v => if v < 10 then (if v < 0 then -1 else v) else S.2.2.2.2.1, S.2.2.2.2.2)), [])
  | 15 => ((udX S.2.2.2.2.1 f.2.1 S.2.2.2.2.2).1, (S.1, S.2.1, S.2.2.1, S.2.2.2.1, (S.2.2.2.2.1, (udX S.2.2.2.2.1 f.2.1 S.2.2.2.2.2).2)), [])
  | _ => (if (cqX f.2.1).isSome = true then 0 else 37, (S.1, (cqX f.2.1).getD S.2.1, S.2.2), [])
