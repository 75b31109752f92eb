/-! the reference: meanings, an array in the order of their making -/
theorem rwA_app {g : mu_T} {r p : Nat} {xs ys : List Int32} : rwA g r p (xs ++ ys) ↔ rwA g r p xs ∧ rwA g r (p + xs.length) ys := by
  constructor
  · intro h
    refine ⟨fun j hj => ?_, fun j hj => ?_⟩
    · rw [h j (by rw [List.length_append]; omega), List.getD_eq_getElem?_getD, List.getElem?_append_left hj, ← List.getD_eq_getElem?_getD]
    · rw [Nat.add_assoc, h (xs.length + j) (by rw [List.length_append]; omega), List.getD_eq_getElem?_getD, List.getElem?_append_right (by omega), Nat.add_sub_cancel_left, ← List.getD_eq_getElem?_getD]
  · rintro ⟨h1, h2⟩ j hj
    rw [List.length_append] at hj
    by_cases c : j < xs.length
    · rw [h1 j c, List.getD_eq_getElem?_getD, List.getD_eq_getElem?_getD, List.getElem?_append_left c]
    · have := h2 (j - xs.length) (by omega)
      rw [show p + j = p + xs.length + (j - xs.length) by omega, this, List.getD_eq_getElem?_getD, List.getD_eq_getElem?_getD, List.getElem?_append_right (by omega)]
/-- a meaning: its name, the code of the built-in macro or none, its text -/
abbrev Me : Type := List Int32 × Option Nat × List Int32
def mE : Me := ([], none, [])
def mB (e : Me) : List Int32 := e.1 ++ e.2.2
def mT : List Me → List Int32
  | [] => []
  | e :: M => mB e ++ mT M
theorem mT_app : ∀ {A B : List Me}, mT (A ++ B) = mT A ++ mT B
  | [], _ => rfl
  | e :: A, B => by show mB e ++ mT (A ++ B) = (mB e ++ mT A) ++ mT B; rw [mT_app, List.append_assoc]
def bN : Option Nat → Nat
  | none => 0
  | some c => c - 1048575
def uB (e : Me) : Nat := if e.2.1 = none then (mB e).length else 0
def cD : List Me → Nat
  | [] => 0
  | e :: M => (if e.2.1 = none then 1 else 0) + cD M
def cB : List Me → Nat
  | [] => 0
  | e :: M => uB e + cB M
theorem cD_app : ∀ {A B : List Me}, cD (A ++ B) = cD A + cD B
  | [], _ => by rw [cD, Nat.zero_add]; rfl
  | e :: A, B => by show _ + cD (A ++ B) = (_ + cD A) + cD B; rw [cD_app, Nat.add_assoc]
theorem cB_app : ∀ {A B : List Me}, cB (A ++ B) = cB A + cB B
  | [], _ => by rw [cB, Nat.zero_add]; rfl
  | e :: A, B => by show _ + cB (A ++ B) = (_ + cB A) + cB B; rw [cB_app, Nat.add_assoc]
theorem cD_le : ∀ {M : List Me}, cD M ≤ M.length
  | [] => Nat.le_refl _
  | e :: M => by
    have := cD_le (M := M)
    rw [cD, List.length_cons]
    split <;> omega
theorem cB_le : ∀ {M : List Me}, cB M ≤ (mT M).length
  | [] => Nat.le_refl _
  | e :: M => by
    have := cB_le (M := M)
    rw [cB, mT, List.length_append, uB]
    split <;> omega
/-- one meaning in the rows -/
def mRw (g : mu_T) (m at_ : Nat) (e : Me) : Prop := gI g 1011 m = nI at_ ∧ gI g 1012 m = nI e.1.length ∧ gI g 1013 m = nI e.2.2.length ∧ gI g 1014 m = nI (bN e.2.1)
def mRs (g : mu_T) : Nat → Nat → List Me → Prop
  | _, _, [] => True
  | m, a, e :: M => mRw g m a e ∧ mRs g (m + 1) (a + (mB e).length) M
theorem mRs_app {g : mu_T} : ∀ {A B : List Me} {m a : Nat}, mRs g m a (A ++ B) ↔ mRs g m a A ∧ mRs g (m + A.length) (a + (mT A).length) B
  | [], B, m, a => ⟨fun h => ⟨trivial, h⟩, fun h => h.2⟩
  | e :: A, B, m, a => by
    show mRw g m a e ∧ mRs g (m + 1) (a + (mB e).length) (A ++ B) ↔ (mRw g m a e ∧ mRs g (m + 1) (a + (mB e).length) A) ∧ mRs g (m + (A.length + 1)) (a + (mB e ++ mT A).length) B
    rw [mRs_app, and_assoc, List.length_append, show m + 1 + A.length = m + (A.length + 1) by omega, show a + (mB e).length + (mT A).length = a + ((mB e).length + (mT A).length) by omega]
theorem mRs_of {g w : mu_T} : ∀ {M : List Me} {m a : Nat}, mRs g m a M → (∀ j, m ≤ j → j < m + M.length → gI w 1011 j = gI g 1011 j ∧ gI w 1012 j = gI g 1012 j ∧ gI w 1013 j = gI g 1013 j ∧ gI w 1014 j = gI g 1014 j) → mRs w m a M
  | [], _, _, _, _ => trivial
  | e :: M, m, a, ⟨⟨h1, h2, h3, h4⟩, h⟩, hw => by
    obtain ⟨w1, w2, w3, w4⟩ := hw m (Nat.le_refl _) (by rw [List.length_cons]; omega)
    exact ⟨⟨w1.trans h1, w2.trans h2, w3.trans h3, w4.trans h4⟩, mRs_of h (fun j h1 h2 => hw j (by omega) (by rw [List.length_cons]; omega))⟩
/-- codes of built-in macros -/
def okM (M : List Me) : Prop := ∀ e ∈ M, ∀ c, e.2.1 = some c → ∃ j, j < 17 ∧ c = 1048576 + j
def RM (g : mu_T) (M : List Me) : Prop := gI g 1003 21 = nI M.length ∧ gI g 1003 27 = nI (mT M).length ∧ gI g 1003 28 = nI (cD M) ∧ gI g 1003 29 = nI (cB M) ∧ rwA g 1015 0 (mT M) ∧ mRs g 0 0 M ∧ M.length ≤ 317 ∧ (mT M).length ≤ 16512 ∧ okM M
theorem RM.rs {g w : mu_T} {K U : List Nat} {M : List Me} (h : RM g M) (z : rs g w K U) (hK : ∀ k ∈ [21, 27, 28, 29], k ∉ K) (hU : ∀ r ∈ [1011, 1012, 1013, 1014, 1015], r ∉ U) : RM w M := by
  obtain ⟨h1, h2, h3, h4, h5, h6, h7⟩ := h
  exact ⟨by rw [z.2 21 (hK 21 (by decide))]; exact h1, by rw [z.2 27 (hK 27 (by decide))]; exact h2, by rw [z.2 28 (hK 28 (by decide))]; exact h3, by rw [z.2 29 (hK 29 (by decide))]; exact h4, fun j hj => by rw [z.row (hU 1015 (by decide)) (by decide)]; exact h5 j hj, mRs_of h6 (fun j _ _ => ⟨z.row (hU 1011 (by decide)) (by decide) j, z.row (hU 1012 (by decide)) (by decide) j, z.row (hU 1013 (by decide)) (by decide) j, z.row (hU 1014 (by decide)) (by decide) j⟩), h7⟩
theorem RM.at {g : mu_T} {A B : List Me} {e : Me} (h : RM g (A ++ e :: B)) : mRw g A.length (mT A).length e ∧ rwA g 1015 (mT A).length e.1 ∧ rwA g 1015 ((mT A).length + e.1.length) e.2.2 ∧ (mT A).length + e.1.length + e.2.2.length + (mT B).length ≤ 16512 ∧ A.length + 1 + B.length ≤ 317 := by
  obtain ⟨h1, h2, h3, h4, h5, h6, h7, h8, h9⟩ := h
  have h6 := (mRs_app.mp h6).2.1
  rw [mT_app, show mT (e :: B) = (e.1 ++ e.2.2) ++ mT B from rfl] at h5 h8
  have h5 := (rwA_app.mp (rwA_app.mp h5).2).1
  have h5 := rwA_app.mp h5
  rw [Nat.zero_add] at h5 h6
  rw [Nat.zero_add] at h6
  rw [List.length_append, List.length_append, List.length_append] at h8
  rw [List.length_append, List.length_cons] at h7
  exact ⟨h6, h5.1, h5.2, by omega, by omega⟩
/-- the newest meaning of a name -/
def tpF (ys : List Int32) : List Me → Nat → Int32 → Int32
  | [], _, f => f
  | e :: M, m, f => tpF ys M (m + 1) (if e.1 = ys then nI m else f)
def tpV (M : List Me) (ys : List Int32) : Int32 := tpF ys M 0 (-1)
theorem tpF_no {ys : List Int32} : ∀ {M : List Me} {m : Nat} {f : Int32}, (∀ e ∈ M, e.1 ≠ ys) → tpF ys M m f = f
  | [], _, _, _ => rfl
  | e :: M, m, f, h => by rw [tpF, if_neg (h e (List.mem_cons_self ..))]; exact tpF_no (fun x hx => h x (List.mem_cons_of_mem _ hx))
theorem tpF_app {ys : List Int32} {e : Me} {B : List Me} (he : e.1 = ys) (hB : ∀ x ∈ B, x.1 ≠ ys) : ∀ {A : List Me} {m : Nat} {f : Int32}, tpF ys (A ++ e :: B) m f = nI (m + A.length)
  | [], m, f => by show tpF ys B (m + 1) (if e.1 = ys then nI m else f) = _; rw [if_pos he, tpF_no hB]; rfl
  | x :: A, m, f => by show tpF ys (A ++ e :: B) (m + 1) _ = _; rw [tpF_app he hB, List.length_cons, show m + 1 + A.length = m + (A.length + 1) by omega]
theorem last_or (ys : List Int32) : ∀ (M : List Me), (∀ e ∈ M, e.1 ≠ ys) ∨ ∃ A e B, M = A ++ e :: B ∧ e.1 = ys ∧ ∀ x ∈ B, x.1 ≠ ys
  | [] => Or.inl (fun e he => absurd he List.not_mem_nil)
  | e :: M => by
    rcases last_or ys M with h | ⟨A, x, B, rfl, h2, h3⟩
    · by_cases c : e.1 = ys
      · exact Or.inr ⟨[], e, M, rfl, c, h⟩
      · exact Or.inl (fun x hx => by
          rcases List.mem_cons.mp hx with hx | hx
          · rw [hx]; exact c
          · exact h x hx)
    · exact Or.inr ⟨e :: A, x, B, rfl, h2, h3⟩
theorem tp_or (M : List Me) (ys : List Int32) : ((∀ e ∈ M, e.1 ≠ ys) ∧ tpV M ys = -1) ∨ ∃ A e B, M = A ++ e :: B ∧ e.1 = ys ∧ (∀ x ∈ B, x.1 ≠ ys) ∧ tpV M ys = nI A.length := by
  rcases last_or ys M with h | ⟨A, x, B, rfl, h2, h3⟩
  · exact Or.inl ⟨h, tpF_no h⟩
  · exact Or.inr ⟨A, x, B, rfl, h2, h3, by rw [tpV, tpF_app h2 h3, Nat.zero_add]⟩
/-- all meanings of a name, newest first -/
def mgP : List Me → Mng
  | [], _ => []
  | e :: M, nm => mgP M nm ++ (if e.1 = nm then [e.2] else [])
theorem mgP_app {nm : List Int32} : ∀ {A B : List Me}, mgP (A ++ B) nm = mgP B nm ++ mgP A nm
  | [], B => by rw [mgP, List.append_nil]; rfl
  | e :: A, B => by show mgP (A ++ B) nm ++ _ = mgP B nm ++ (mgP A nm ++ _); rw [mgP_app, List.append_assoc]
theorem mgP_no {nm : List Int32} : ∀ {M : List Me}, (∀ e ∈ M, e.1 ≠ nm) → mgP M nm = []
  | [], _ => rfl
  | e :: M, h => by rw [mgP, if_neg (h e (List.mem_cons_self ..)), mgP_no (fun x hx => h x (List.mem_cons_of_mem _ hx))]; rfl
theorem mgP_top {nm : List Int32} {A B : List Me} {e : Me} (he : e.1 = nm) (hB : ∀ x ∈ B, x.1 ≠ nm) : mgP (A ++ e :: B) nm = e.2 :: mgP A nm := by
  rw [mgP_app, mgP, mgP_no hB, if_pos he]; rfl
theorem mgP_del {nm : List Int32} {A B : List Me} {e : Me} (he : e.1 = nm) (hB : ∀ x ∈ B, x.1 ≠ nm) : mgP (A ++ B) = pu (mgP (A ++ e :: B)) nm ((mgP (A ++ e :: B) nm).drop 1) := by
  funext x
  rw [pu]
  by_cases c : x = nm
  · rw [if_pos c, c, mgP_top he hB, mgP_app, mgP_no hB]; rfl
  · rw [if_neg c, mgP_app, mgP_app, mgP, if_neg (fun z => c (by rw [← z, he])), List.append_nil]
theorem mgP_add {M : List Me} {e : Me} : mgP (M ++ [e]) = pu (mgP M) e.1 (e.2 :: mgP M e.1) := by
  funext x
  rw [pu, mgP_app, mgP, mgP]
  by_cases c : x = e.1
  · rw [if_pos c, if_pos c.symm, c]; rfl
  · rw [if_neg c, if_neg (fun z => c z.symm)]; rfl
