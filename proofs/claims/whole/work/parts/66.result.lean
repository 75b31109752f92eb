/-! the result of a call: all of it, or noted that it is longer than there is room -/
def oR (F : List Int32) (p : List Int32 × Bool) : Prop := ((p.2 = false ∧ p.1 = F) ∨ (p.2 = true ∧ 32768 < F.length)) ∧ ∀ x ∈ p.1, isByte x
def RE (g : mu_T) (F : List Int32) : Prop := ∃ xs ov, RB g 5 6 32768 xs ov ∧ oR F (xs, ov)
theorem RE.sm {g k : mu_T} {S : List Nat} {F : List Int32} (h : RE g F) (z : sm g k S) (h5 : 5 ∉ S) (h6 : 6 ∉ S) : RE k F := by
  obtain ⟨xs, ov, h1, h2⟩ := h
  exact ⟨xs, ov, h1.sm z h5 h6, h2⟩
theorem oR_ad1 {F : List Int32} {p : List Int32 × Bool} {x : Int32} (h : oR F p) (hx : isByte x) : oR (F ++ [x]) (ad1 32768 p x) := by
  obtain ⟨h1, h2⟩ := h
  rw [ad1]
  by_cases c : p.2 = true ∨ p.1.length = 32768
  · rw [if_pos c]
    refine ⟨Or.inr ⟨rfl, ?_⟩, h2⟩
    rw [List.length_append, List.length_singleton]
    rcases h1 with ⟨a, b⟩ | ⟨a, b⟩
    · rcases c with c | c
      · rw [a] at c; cases c
      · rw [b] at c; omega
    · omega
  · rw [if_neg c]
    rcases h1 with ⟨a, b⟩ | ⟨a, b⟩
    · refine ⟨Or.inl ⟨rfl, by rw [b]⟩, fun y hy => ?_⟩
      rcases List.mem_append.mp hy with hy | hy
      · exact h2 y hy
      · rw [List.mem_singleton.mp hy]; exact hx
    · exact absurd (Or.inl a) c
theorem oR_adL {l : List Int32} : ∀ {F : List Int32} {p : List Int32 × Bool}, oR F p → (∀ x ∈ l, isByte x) → oR (F ++ l) (adL 32768 p l) := by
  induction l with
  | nil => intro F p h _; rw [List.append_nil]; exact h
  | cons x l ih =>
    intro F p h hl
    have := ih (oR_ad1 h (hl x (List.mem_cons_self ..))) (fun y hy => hl y (List.mem_cons_of_mem _ hy))
    rw [List.append_assoc] at this
    exact this
theorem oR_part {F xs p : List Int32} {ov : Bool} (h : oR F (xs, ov)) (hp : ∀ x ∈ p, isByte x) : oR (F ++ p) ((if ov = true ∨ 32768 < xs.length + p.length then xs else xs ++ p), ov || decide (32768 < xs.length + p.length)) := by
  obtain ⟨h1, h2⟩ := h
  rcases h1 with ⟨a, b⟩ | ⟨a, b⟩
  · have a : ov = false := a
    have b : xs = F := b
    subst a; subst b
    by_cases c : 32768 < xs.length + p.length
    · rw [if_pos (Or.inr c), decide_eq_true c]
      exact ⟨Or.inr ⟨rfl, by rw [List.length_append]; exact c⟩, h2⟩
    · rw [if_neg (fun z => by rcases z with z | z; cases z; exact c z), decide_eq_false c]
      refine ⟨Or.inl ⟨rfl, rfl⟩, fun y hy => ?_⟩
      rcases List.mem_append.mp hy with hy | hy
      · exact h2 y hy
      · exact hp y hy
  · have a : ov = true := a
    subst a
    rw [if_pos (Or.inl rfl)]
    exact ⟨Or.inr ⟨rfl, by rw [List.length_append]; omega⟩, h2⟩
theorem kr_cut (l : Launch) (q : ev_T) {F : List Int32} {g : mu_T} (h : RE g F) : Ctr l q M_By_cut 0 [.ref 5, .int 0] (0, 0, g) (fun v w => v = none ∧ sm g w.2.2 [5] ∧ RE w.2.2 []) := by
  obtain ⟨xs, ov, h1, h2⟩ := h
  exact (k_cut0 l q h1).weak fun v w h => ⟨h.1, h.2.1, [], false, h.2.2, Or.inl ⟨rfl, rfl⟩, fun x hx => absurd hx List.not_mem_nil⟩
theorem kr_add (l : Launch) (q : ev_T) {F : List Int32} {x : Int32} {g : mu_T} (h : RE g F) : Ctr l q M_By_add 0 [.ref 5, .int x] (0, 0, g) (fun v w => v = none ∧ sm g w.2.2 [5, 6] ∧ RE w.2.2 (F ++ [x.toInt8.toInt32])) := by
  obtain ⟨xs, ov, h1, h2⟩ := h
  exact (k_add l q h1).weak fun v w h => ⟨h.1, h.2.1, _, _, h.2.2, oR_ad1 h2 (by show (x.toInt8.toInt32).toInt8.toInt32 = x.toInt8.toInt32; rw [Int8.toInt8_toInt32])⟩
theorem kr_addPart (l : Launch) (q : ev_T) {F : List Int32} {b2 r2 n2 k f : Nat} {ys : List Int32} {ov2 : Bool} {g : mu_T} (h : RE g F) (hC : RB g b2 r2 n2 ys ov2) (hf : f + k ≤ ys.length) (hn2n : n2 < 1073741824) (hyb : ∀ x ∈ ys, isByte x) : Ctr l q M_By_addPart 1 [.ref 5, .ref b2, .int (nI f), .int (nI k)] (0, 0, g) (fun v w => v = none ∧ sm g w.2.2 [5, 6] ∧ RE w.2.2 (F ++ (ys.drop f).take k)) := by
  obtain ⟨xs, ov, h1, h2⟩ := h
  have hk : ((ys.drop f).take k).length = k := by rw [List.length_take, List.length_drop]; omega
  refine (k_addPart l q h1 hC hf (by decide) hn2n).weak fun v w h => ⟨h.1, h.2.1, _, _, h.2.2, ?_⟩
  have := oR_part (p := (ys.drop f).take k) h2 (fun x hx => hyb x (List.mem_of_mem_drop (List.mem_of_mem_take hx)))
  rw [hk] at this
  exact this
theorem dg_byte (a j : Nat) : isByte (dg a j) := dg_b a j
theorem dgL_byte (a : Nat) : ∀ (k : Nat), ∀ x ∈ dgL a k, isByte x
  | 0, x, h => absurd h (by simp [dgL])
  | k + 1, x, h => by
    rw [dgL] at h
    rcases List.mem_cons.mp h with h | h
    · rw [h]; exact dg_byte a k
    · exact dgL_byte a k x h
theorem decB_byte (x : Int32) : ∀ y ∈ decB x, isByte y := by
  intro y hy
  rw [decB] at hy
  split at hy
  · rcases List.mem_cons.mp hy with hy | hy
    · rw [hy]; exact (by decide : (45 : Int32).toInt8.toInt32 = 45)
    · exact dgL_byte _ _ y hy
  · exact dgL_byte _ _ y hy
theorem kr_addNumber (l : Launch) (q : ev_T) {F : List Int32} {x : Int32} {g : mu_T} (h : RE g F) : Ctr l q M_By_addNumber 1 [.ref 5, .int x] (0, 0, g) (fun v w => v = none ∧ sm g w.2.2 [5, 6] ∧ RE w.2.2 (F ++ decB x)) := by
  obtain ⟨xs, ov, h1, h2⟩ := h
  exact (k_addNumber l q h1).weak fun v w h => ⟨h.1, h.2.1, _, _, h.2.2, oR_adL h2 (decB_byte x)⟩
