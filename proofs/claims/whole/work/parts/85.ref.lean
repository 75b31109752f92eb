/-! the reference: its fields and rows -/
/-- only the fields K of the reference and the rows U may differ; no error is taken back, and without an error its line stays -/
def rs (g w : mu_T) (K U : List Nat) : Prop := (sm g w (1003 :: U) ∧ (gI w 1003 2 = 0 → gI g 1003 2 = 0 ∧ gI w 1003 3 = gI g 1003 3)) ∧ ∀ k, k ∉ K → gI w 1003 k = gI g 1003 k
theorem rs.rf (g : mu_T) (K U : List Nat) : rs g g K U := ⟨⟨sm.rf g _, fun h => ⟨h, rfl⟩⟩, fun _ _ => rfl⟩
theorem rs.mono {g w : mu_T} {K K2 U U2 : List Nat} (z : rs g w K U) (hK : ∀ a ∈ K, a ∈ K2) (hU : ∀ a ∈ U, a ∈ U2) : rs g w K2 U2 := ⟨⟨z.1.1.mono (fun a ha => by
    rcases List.mem_cons.mp ha with h | h
    · rw [h]; exact List.mem_cons_self ..
    · exact List.mem_cons_of_mem _ (hU a h)), z.1.2⟩, fun k hk => z.2 k (fun h => hk (hK k h))⟩
theorem rs.tr {g h w : mu_T} {K U : List Nat} (z : rs g h K U) (y : rs h w K U) : rs g w K U := ⟨⟨z.1.1.tr y.1.1 (fun _ h => h) (fun _ h => h), fun e => ⟨(z.1.2 (y.1.2 e).1).1, (y.1.2 e).2.trans (z.1.2 (y.1.2 e).1).2⟩⟩, fun k hk => (y.2 k hk).trans (z.2 k hk)⟩
theorem rs.fI {g h : mu_T} {K U : List Nat} {k : Nat} {x : Int32} (z : rs g h K U) (hk : k ∈ K) (hc : (k ≠ 2 ∧ k ≠ 3) ∨ (k = 2 ∧ ¬ x = 0) ∨ (k = 3 ∧ ¬ gI h 1003 2 = 0) := by first | exact Or.inl ⟨by decide, by decide⟩ | exact Or.inr (Or.inl ⟨rfl, by decide⟩) | exact Or.inr (Or.inr ⟨rfl, by rw [gI_eq]; decide⟩)) : rs g (xI h 1003 k x) K U := by
  refine ⟨⟨z.1.1.xI (List.mem_cons_self ..), fun e => ?_⟩, fun j hj => (gI_nk (fun e => hj (by rw [e]; exact hk))).trans (z.2 j hj)⟩
  rcases hc with ⟨h2, h3⟩ | ⟨h2, hx⟩ | ⟨h3, he⟩
  · rw [gI_nk (Ne.symm h2)] at e
    exact ⟨(z.1.2 e).1, (gI_nk (Ne.symm h3)).trans (z.1.2 e).2⟩
  · rw [h2, gI_eq] at e
    exact absurd e hx
  · rw [h3, gI_nk (by decide)] at e
    exact absurd e he
theorem rs.rI {g h : mu_T} {K U : List Nat} {r j : Nat} {x : Int32} (z : rs g h K U) (hr : r ∈ U) (h3 : r ≠ 1003) : rs g (xI h r j x) K U := ⟨⟨z.1.1.xI (List.mem_cons_of_mem _ hr), fun e => ⟨(z.1.2 ((gI_na (Ne.symm h3)).symm.trans e)).1, (gI_na (Ne.symm h3)).trans (z.1.2 ((gI_na (Ne.symm h3)).symm.trans e)).2⟩⟩, fun k hk => (gI_na (Ne.symm h3)).trans (z.2 k hk)⟩
theorem rs.row {g w : mu_T} {K U : List Nat} {r : Nat} (z : rs g w K U) (hr : r ∉ U) (h3 : r ≠ 1003) (j : Nat) : gI w r j = gI g r j := z.1.1.I (fun h => by rcases List.mem_cons.mp h with h | h; exact h3 h; exact hr h) j
theorem rs.S {g w : mu_T} {K U : List Nat} (z : rs g w K U) (h : Shp g) : Shp w := h.sm z.1.1
theorem rs.er {g w : mu_T} {K U : List Nat} (z : rs g w K U) (h : gI w 1003 2 = 0) : gI w 1003 3 = gI g 1003 3 := (z.1.2 h).2
/-- the row r holds xs from the place p on -/
def rwA (g : mu_T) (r p : Nat) (xs : List Int32) : Prop := ∀ j, j < xs.length → gI g r (p + j) = xs.getD j 0
/-- the input -/
def RQ (g : mu_T) (fu : Nat) (I : Ip) : Prop := gI g 1003 8 = nI (32768 - I.1.length) ∧ I.1.length ≤ 32768 ∧ rwA g 1006 (32768 - I.1.length) I.1 ∧ gI g 1003 9 = nI I.2.1 ∧ I.2.1 ≤ I.1.length ∧ gI g 1003 10 = nI (I.2.2.2 + 1) ∧ gI g 1003 11 = nI I.2.2.1 ∧ gI g 1003 4 = nI (fu - I.2.2.1) ∧ I.2.2.1 ≤ fu ∧ fu ≤ 400000
theorem RQ.rs {g w : mu_T} {K U : List Nat} {fu : Nat} {I : Ip} (h : RQ g fu I) (z : rs g w K U) (hK : ∀ k ∈ [4, 8, 9, 10, 11], k ∉ K) (hU : 1006 ∉ U) : RQ w fu I := by
  obtain ⟨h1, h2, h3, h4, h5, h6, h7, h8, h9, h10⟩ := h
  exact ⟨by rw [z.2 8 (hK 8 (by decide))]; exact h1, h2, fun j hj => by rw [z.row hU (by decide)]; exact h3 j hj, by rw [z.2 9 (hK 9 (by decide))]; exact h4, h5, by rw [z.2 10 (hK 10 (by decide))]; exact h6, by rw [z.2 11 (hK 11 (by decide))]; exact h7, by rw [z.2 4 (hK 4 (by decide))]; exact h8, h9, h10⟩
/-- the token -/
def TK (g : mu_T) (xs : List Int32) : Prop := gI g 1003 18 = nI xs.length ∧ rwA g 1009 0 xs ∧ xs.length ≤ 32768
theorem TK.rs {g w : mu_T} {K U : List Nat} {xs : List Int32} (h : TK g xs) (z : rs g w K U) (hK : 18 ∉ K) (hU : 1009 ∉ U) : TK w xs := ⟨by rw [z.2 18 hK]; exact h.1, fun j hj => by rw [z.row hU (by decide)]; exact h.2.1 j hj, h.2.2⟩
/-- quotes -/
def QT (g : mu_T) (op cl : List Int32) : Prop := gI g 1003 13 = nI op.length ∧ gI g 1003 15 = nI cl.length ∧ 0 < op.length ∧ op.length ≤ 4 ∧ 0 < cl.length ∧ cl.length ≤ 4 ∧ (∀ j, j < op.length → gI g 1007 j = op.getD j 0 &&& 255) ∧ ∀ j, j < cl.length → gI g 1008 j = cl.getD j 0 &&& 255
theorem QT.rs {g w : mu_T} {K U : List Nat} {op cl : List Int32} (h : QT g op cl) (z : rs g w K U) (h13 : 13 ∉ K) (h15 : 15 ∉ K) (h7 : 1007 ∉ U) (h8 : 1008 ∉ U) : QT w op cl := by
  obtain ⟨a, b, c, d, e, f, p, q⟩ := h
  exact ⟨by rw [z.2 13 h13]; exact a, by rw [z.2 15 h15]; exact b, c, d, e, f, fun j hj => by rw [z.row h7 (by decide)]; exact p j hj, fun j hj => by rw [z.row h8 (by decide)]; exact q j hj⟩
theorem tkI_of {u : Int32} {us : List Int32} {m f n : Nat} (h : m ≤ us.length + 1) : tkI (u :: us, m, f + 1, n) = (us, (if us.length < m then m - 1 else m), f, n + (if us.length < m ∧ u &&& 255 = 10 then 1 else 0)) := by
  simp only [tkI]
  by_cases c : us.length < m
  · rw [if_pos c, if_pos c]
    by_cases d : u &&& 255 = 10
    · rw [if_pos d, if_pos ⟨c, d⟩, show m - 1 = us.length by omega]
    · rw [if_neg d, if_neg (fun z => d z.2), show m - 1 = us.length by omega]
  · rw [if_neg c, if_neg c, if_neg (fun z => c z.1), Nat.add_zero]
theorem ktL_app {b : Bool} {x y : List Int32} : ktL b (x ++ y) = ktL b x ++ ktL b y := by
  cases b <;> rfl
