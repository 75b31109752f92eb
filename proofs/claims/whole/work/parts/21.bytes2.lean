/-! rows of bytes as lists -/
theorem gI_eq (g : mu_T) (a k : Nat) (x : Int32) : gI (xI g a k x) a k = x := up2_eq _ _ _ _
theorem gI_na {g : mu_T} {a k b j : Nat} {x : Int32} (h : b ≠ a) : gI (xI g a k x) b j = gI g b j := up2_na h
theorem gI_nk {g : mu_T} {a k b j : Nat} {x : Int32} (h : j ≠ k) : gI (xI g a k x) b j = gI g b j := up2_nk h
theorem gI_A (g : mu_T) (a : Nat) (f : Nat → Int32) (j : Nat) : gI (xA g a f) a j = f j := congrFun (if_pos rfl) j
theorem gI_nA {g : mu_T} {a b j : Nat} {f : Nat → Int32} (h : b ≠ a) : gI (xA g a f) b j = gI g b j := congrFun (if_neg h) j
/-- only the cells of S may differ -/
def sm (g h : mu_T) (S : List Nat) : Prop := h.1 = g.1 ∧ h.2.1 = g.2.1 ∧ (∀ a, a ∉ S → h.2.2.2 a = g.2.2.2 a) ∧ ∀ a, a ∉ S → h.2.2.1 a = g.2.2.1 a
theorem sm.rf (g : mu_T) (S : List Nat) : sm g g S := ⟨rfl, rfl, fun _ _ => rfl, fun _ _ => rfl⟩
theorem sm.xI {g h : mu_T} {S : List Nat} {a k : Nat} {x : Int32} (z : sm g h S) (ha : a ∈ S) : sm g (xI h a k x) S := ⟨z.1, z.2.1, z.2.2.1, fun b hb => (up2_nf (fun e => hb (by rw [e]; exact ha))).trans (z.2.2.2 b hb)⟩
theorem sm.xA {g h : mu_T} {S : List Nat} {a : Nat} {f : Nat → Int32} (z : sm g h S) (ha : a ∈ S) : sm g (xA h a f) S := ⟨z.1, z.2.1, z.2.2.1, fun b hb => (if_neg (fun e => hb (by rw [e]; exact ha))).trans (z.2.2.2 b hb)⟩
theorem sm.tr {g h k : mu_T} {S T U : List Nat} (z : sm g h S) (y : sm h k T) (hS : ∀ a ∈ S, a ∈ U) (hT : ∀ a ∈ T, a ∈ U) : sm g k U := ⟨y.1.trans z.1, y.2.1.trans z.2.1, fun a ha => (y.2.2.1 a (fun e => ha (hT a e))).trans (z.2.2.1 a (fun e => ha (hS a e))), fun a ha => (y.2.2.2 a (fun e => ha (hT a e))).trans (z.2.2.2 a (fun e => ha (hS a e)))⟩
theorem sm.mono {g h : mu_T} {S U : List Nat} (z : sm g h S) (hS : ∀ a ∈ S, a ∈ U) : sm g h U := ⟨z.1, z.2.1, fun a ha => z.2.2.1 a (fun e => ha (hS a e)), fun a ha => z.2.2.2 a (fun e => ha (hS a e))⟩
theorem sm.I {g h : mu_T} {S : List Nat} (z : sm g h S) {a : Nat} (ha : a ∉ S) (k : Nat) : gI h a k = gI g a k := congrFun (z.2.2.2 a ha) k
theorem sm.N {g h : mu_T} {S : List Nat} (z : sm g h S) : gN h = gN g := z.1
theorem sm.F {g h : mu_T} {S : List Nat} (z : sm g h S) : gF h = gF g := z.2.1
theorem sm.R {g h : mu_T} {S : List Nat} (z : sm g h S) {a : Nat} (ha : a ∉ S) (k : Nat) : gR h a k = gR g a k := congrFun (z.2.2.1 a ha) k
theorem sm.xR {g h : mu_T} {S : List Nat} {a k : Nat} {x : Option Nat} (z : sm g h S) (ha : a ∈ S) : sm g (xR h a k x) S := ⟨z.1, z.2.1, fun b hb => (up2_nf (fun e => hb (by rw [e]; exact ha))).trans (z.2.2.1 b hb), z.2.2.2⟩
theorem gR_eq (g : mu_T) (a k : Nat) (x : Option Nat) : gR (xR g a k x) a k = x := up2_eq _ _ _ _
theorem gR_na {g : mu_T} {a k b j : Nat} {x : Option Nat} (h : b ≠ a) : gR (xR g a k x) b j = gR g b j := up2_na h
theorem gR_nk {g : mu_T} {a k b j : Nat} {x : Option Nat} (h : j ≠ k) : gR (xR g a k x) b j = gR g b j := up2_nk h
theorem isB.sm {g h : mu_T} {S : List Nat} {b r n : Nat} (i : isB g b r n) (z : sm g h S) : isB h b r n := by
  obtain ⟨h1, h2, h3, h4, h5, h6⟩ := i
  exact ⟨h1, by rw [z.N]; exact h2, by rw [z.F]; exact h3, h4, by rw [z.N]; exact h5, h6⟩
theorem isB.ne {g : mu_T} {b r n : Nat} (i : isB g b r n) : b ≠ r := fun z => by
  obtain ⟨h1, h2, h3, h4, h5, h6⟩ := i
  rw [z, h4] at h1; cases h1
def RB (g : mu_T) (b r n : Nat) (xs : List Int32) (ov : Bool) : Prop := isB g b r n ∧ xs.length ≤ n ∧ gI g b 1 = nI xs.length ∧ gI g b 2 = (if ov = true then 1 else 0) ∧ ∀ j, j < xs.length → gI g r j = xs.getD j 0
theorem RB.sm {g h : mu_T} {S : List Nat} {b r n : Nat} {xs : List Int32} {ov : Bool} (i : RB g b r n xs ov) (z : sm g h S) (hb : b ∉ S) (hr : r ∉ S) : RB h b r n xs ov := by
  obtain ⟨h1, h2, h3, h4, h5⟩ := i
  exact ⟨h1.sm z, h2, by rw [z.I hb]; exact h3, by rw [z.I hb]; exact h4, fun j hj => by rw [z.I hr]; exact h5 j hj⟩
theorem RB.lt {g : mu_T} {b r n : Nat} {xs : List Int32} {ov : Bool} (i : RB g b r n xs ov) : xs.length < 2147483648 := Nat.lt_of_le_of_lt i.2.1 i.1.2.2.2.2.2
/-- one byte more, in a row of N places -/
def ad1 (N : Nat) (p : List Int32 × Bool) (x : Int32) : List Int32 × Bool := if p.2 = true ∨ p.1.length = N then (p.1, true) else (p.1 ++ [x], false)
def adL (N : Nat) (p : List Int32 × Bool) (l : List Int32) : List Int32 × Bool := l.foldl (ad1 N) p
theorem adL_over (N : Nat) : ∀ (l xs : List Int32), adL N (xs, true) l = (xs, true)
  | [], xs => rfl
  | x :: l, xs => by
    show adL N (ad1 N (xs, true) x) l = _
    rw [show ad1 N (xs, true) x = (xs, true) from if_pos (Or.inl rfl)]
    exact adL_over N l xs
theorem adL_in (N : Nat) : ∀ (l xs : List Int32), xs.length + l.length ≤ N → adL N (xs, false) l = (xs ++ l, false)
  | [], xs, _ => by simp [adL]
  | x :: l, xs, h => by
    show adL N (ad1 N (xs, false) x) l = _
    simp only [List.length_cons] at h
    rw [show ad1 N (xs, false) x = (xs ++ [x], false) from if_neg (by simp; omega), adL_in N l (xs ++ [x]) (by simp; omega)]
    simp
theorem adL_out (N : Nat) : ∀ (l xs : List Int32), xs.length ≤ N → N < xs.length + l.length → (adL N (xs, false) l).2 = true
  | [], xs, h0, h => by simp at h; omega
  | x :: l, xs, h0, h => by
    show (adL N (ad1 N (xs, false) x) l).2 = true
    by_cases he : xs.length = N
    · rw [show ad1 N (xs, false) x = (xs, true) from if_pos (Or.inr he), adL_over]
    · rw [show ad1 N (xs, false) x = (xs ++ [x], false) from if_neg (by simp [he])]
      simp only [List.length_cons] at h
      exact adL_out N l (xs ++ [x]) (by simp; omega) (by simp; omega)
theorem adL_app (N : Nat) (p : List Int32 × Bool) (l k : List Int32) : adL N p (l ++ k) = adL N (adL N p l) k := List.foldl_append
/-- what 'at' answers, of a list -/
def atL (xs : List Int32) (i : Int32) : Int32 := if i < 0 ∨ nI xs.length ≤ i then -1 else xs.getD i.toNatClampNeg 0 &&& 255
theorem atL_nI {xs : List Int32} {j : Nat} (h : j < xs.length) (hl : xs.length < 2147483648) : atL xs (nI j) = xs.getD j 0 &&& 255 := by
  simp only [atL]
  rw [if_neg (n2 (nI_pos (by omega)) (nI_ge h (by omega))), nI_clamp (by omega)]
theorem atL_out {xs : List Int32} {j : Nat} (h : xs.length ≤ j) (hj : j < 2147483648) : atL xs (nI j) = -1 := by
  simp only [atL]
  rw [if_pos (Or.inr (nI_le h (by omega)))]
theorem clamp_lt {i : Int32} {n : Nat} (hn : n < 2147483648) (h0 : ¬ i < 0) (h1 : ¬ nI n ≤ i) : i.toNatClampNeg < n := Nat.not_le.mp fun z => in_of hn h0 h1 (Or.inr z)
theorem RB.at {g : mu_T} {b r n : Nat} {xs : List Int32} {ov : Bool} (h : RB g b r n xs ov) (i : Int32) : atB g b r n i = atL xs i := by
  have hl := h.lt
  obtain ⟨h1, h2, h3, h4, h5⟩ := h
  simp only [atB, atL, h3]
  by_cases c : i < 0 ∨ nI xs.length ≤ i
  · rw [if_pos c, if_pos (c.elim Or.inl (fun z => Or.inr (Or.inl z)))]
  · have c0 : ¬ i < 0 := fun z => c (Or.inl z)
    have c1 : ¬ nI xs.length ≤ i := fun z => c (Or.inr z)
    have hlt := clamp_lt hl c0 c1
    have c2 : ¬ nI n ≤ i := fun z => c1 (Int32.le_trans (nI_le h2 h1.2.2.2.2.2) z)
    rw [if_neg (n3 c0 c1 c2), if_neg c, h5 _ hlt]
theorem k_at (l : Launch) (q : ev_T) {b r n : Nat} {xs : List Int32} {ov : Bool} {i : Int32} {g : mu_T} (hB : RB g b r n xs ov) : Ctr l q M_By_at 0 [.ref b, .int i] (0, 0, g) (fun v w => v = some (.int (atL xs i)) ∧ w.2.2 = g) :=
  (c_By_at l q hB.1).weak fun v w h => ⟨by rw [h.1, hB.at], h.2⟩
theorem k_hasRoom (l : Launch) (q : ev_T) {b r n k : Nat} {xs : List Int32} {ov : Bool} {g : mu_T} (hB : RB g b r n xs ov) (hk : k < 1073741824) (hn : n < 1073741824) : Ctr l q M_By_hasRoom 0 [.ref b, .int (nI k)] (0, 0, g) (fun v w => v = some (.int (if xs.length + k ≤ n then 1 else 0)) ∧ w.2.2 = g) :=
  (c_By_hasRoom l q hB.1).weak fun v w h => ⟨by
    rw [h.1, hB.2.2.1, pk_sub hB.2.1]
    have h2 := hB.2.1
    by_cases c : xs.length + k ≤ n
    · rw [if_pos c, if_pos (nI_le (by omega) (by omega))]
    · rw [if_neg c, if_neg (nI_ge (by omega) (by omega))], h.2⟩
theorem k_cut0 (l : Launch) (q : ev_T) {b r n : Nat} {xs : List Int32} {ov : Bool} {g : mu_T} (hB : RB g b r n xs ov) : Ctr l q M_By_cut 0 [.ref b, .int 0] (0, 0, g) (fun v w => v = none ∧ sm g w.2.2 [b] ∧ RB w.2.2 b r n [] false) :=
  (c_By_cut l q hB.1).weak fun v w h => by
    have hl := hB.lt
    have hne := hB.1.ne
    obtain ⟨h1, h2, h3, h4, h5⟩ := hB
    refine ⟨h.1, ?_, ?_⟩
    · rw [h.2, h3, if_pos ⟨by decide, nI_pos' (by omega)⟩]
      exact ((sm.rf g [b]).xI (by simp)).xI (by simp)
    · have z : sm g w.2.2 [b] := by
        rw [h.2, h3, if_pos ⟨by decide, nI_pos' (by omega)⟩]
        exact ((sm.rf g [b]).xI (by simp)).xI (by simp)
      refine ⟨h1.sm z, Nat.zero_le _, ?_, ?_, fun j hj => by simp at hj⟩
      · rw [h.2, h3, if_pos ⟨by decide, nI_pos' (by omega)⟩]
        exact (up2_nk (by decide)).trans (up2_eq _ _ _ _)
      · rw [h.2]
        exact up2_eq _ _ _ _
theorem k_add (l : Launch) (q : ev_T) {b r n : Nat} {x : Int32} {xs : List Int32} {ov : Bool} {g : mu_T} (hB : RB g b r n xs ov) : Ctr l q M_By_add 0 [.ref b, .int x] (0, 0, g) (fun v w => v = none ∧ sm g w.2.2 [b, r] ∧ RB w.2.2 b r n (ad1 n (xs, ov) x.toInt8.toInt32).1 (ad1 n (xs, ov) x.toInt8.toInt32).2) :=
  (c_By_add l q hB.1).weak fun v w h => by
    have hl := hB.lt
    have hne := hB.1.ne
    obtain ⟨h1, h2, h3, h4, h5⟩ := hB
    refine ⟨h.1, ?_⟩
    have hn := h1.2.2.2.2.2
    by_cases c : ov = true ∨ xs.length = n
    · have hc : ¬ gI g b 2 = 0 ∨ gI g b 1 < 0 ∨ nI n ≤ gI g b 1 := by
        rcases c with c | c
        · left; rw [h4, if_pos c]; decide
        · right; right; rw [h3, c]; exact Int32.le_refl _
      have e2 := h.2
      rw [if_pos hc] at e2
      have e3 : ad1 n (xs, ov) x.toInt8.toInt32 = (xs, true) := if_pos c
      rw [e2, e3]
      have z : sm g (xI g b 2 1) [b, r] := (sm.rf g [b, r]).xI (by simp)
      exact ⟨z, h1.sm z, h2, (up2_nk (by decide)).trans h3, up2_eq _ _ _ _, fun j hj => (up2_na (Ne.symm hne)).trans (h5 j hj)⟩
    · have c0 : ov = false := by cases ov; rfl; exact absurd (Or.inl rfl) c
      have c1 : xs.length ≠ n := fun z => c (Or.inr z)
      have hc : ¬ (¬ gI g b 2 = 0 ∨ gI g b 1 < 0 ∨ nI n ≤ gI g b 1) := by
        refine n3 (fun z => z (by rw [h4, c0]; rfl)) (by rw [h3]; exact nI_pos (by omega)) (by rw [h3]; exact nI_ge (by omega) (by omega))
      have e2 := h.2
      rw [if_neg hc, h3, nI_clamp (by omega), nI_1] at e2
      have e3 : ad1 n (xs, ov) x.toInt8.toInt32 = (xs ++ [x.toInt8.toInt32], false) := if_neg c
      rw [e2, e3]
      have z : sm g (xI (xI g r xs.length x.toInt8.toInt32) b 1 (nI (xs.length + 1))) [b, r] := ((sm.rf g [b, r]).xI (by simp)).xI (by simp)
      refine ⟨z, h1.sm z, by simp; omega, ?_, ?_, fun j hj => ?_⟩
      · rw [List.length_append]; exact up2_eq _ _ _ _
      · exact (gI_nk (by decide)).trans ((gI_na hne).trans (h4.trans (by rw [c0])))
      · refine (gI_na (Ne.symm hne)).trans ?_
        simp only [List.length_append, List.length_cons, List.length_nil] at hj
        by_cases hjl : j = xs.length
        · subst hjl
          refine (gI_eq _ _ _ _).trans ?_
          simp
        · refine (gI_nk hjl).trans ((h5 j (by omega)).trans ?_)
          simp only [List.getD_eq_getElem?_getD]
          rw [List.getElem?_append_left (by omega)]
