/-! Meanings: counts, and what they mean -/
theorem sumN_ge {f : Nat → Nat} {j : Nat} : ∀ {n i : Nat}, i ≤ j → j < i + n → f j ≤ sumN f i n
  | 0, _, h1, h2 => by omega
  | n + 1, i, h1, h2 => by
    rw [sumN]
    by_cases e : i = j
    · subst e; omega
    · have := sumN_ge (f := f) (j := j) (n := n) (i := i + 1) (by omega) (by omega)
      omega
theorem sumN_add {f a b : Nat → Nat} : ∀ {n i : Nat}, (∀ k, i ≤ k → k < i + n → f k = a k + b k) → sumN f i n = sumN a i n + sumN b i n
  | 0, _, _ => rfl
  | n + 1, i, e => by
    rw [sumN, sumN, sumN, e i (by omega) (by omega), sumN_add (fun k h1 h2 => e k (by omega) (by omega))]
    omega
theorem sumN_const {f : Nat → Nat} {c : Nat} : ∀ {n i : Nat}, (∀ k, i ≤ k → k < i + n → f k = c) → sumN f i n = n * c
  | 0, _, _ => by rw [sumN, Nat.zero_mul]
  | n + 1, i, e => by
    rw [sumN, e i (by omega) (by omega), sumN_const (c := c) (fun k h1 h2 => e k (by omega) (by omega)), Nat.succ_mul]
    omega
/-- 0 to spare, 1 a text, 2 a built-in -/
def cl (sp : List Nat) (B : Nat → Option Nat) (i : Nat) : Nat := if i ∈ sp then 0 else if B i = none then 1 else 2
def MC (sp : List Nat) (N T : Nat → List Int32) (B : Nat → Option Nat) (df db nb bb : Nat) : Prop :=
  sumN (fun i => if cl sp B i = 1 then 1 else 0) 0 317 = df ∧ sumN (fun i => if cl sp B i = 2 then 1 else 0) 0 317 = nb ∧
  sumN (fun i => if cl sp B i = 1 then (N i).length + (T i).length else 0) 0 317 = db ∧ sumN (fun i => if cl sp B i = 2 then (N i).length + (T i).length else 0) 0 317 = bb
theorem MC_up {sp sp' : List Nat} {N N' T T' : Nat → List Int32} {B B' : Nat → Option Nat} {df db nb bb df' db' nb' bb' i : Nat} (h : MC sp N T B df db nb bb) (hi : i < 317) (hc : ∀ j, j ≠ i → cl sp' B' j = cl sp B j) (hN : ∀ j, j ≠ i → N' j = N j) (hT : ∀ j, j ≠ i → T' j = T j)
    (e1 : df' + (if cl sp B i = 1 then 1 else 0) = df + (if cl sp' B' i = 1 then 1 else 0)) (e2 : nb' + (if cl sp B i = 2 then 1 else 0) = nb + (if cl sp' B' i = 2 then 1 else 0))
    (e3 : db' + (if cl sp B i = 1 then (N i).length + (T i).length else 0) = db + (if cl sp' B' i = 1 then (N' i).length + (T' i).length else 0)) (e4 : bb' + (if cl sp B i = 2 then (N i).length + (T i).length else 0) = bb + (if cl sp' B' i = 2 then (N' i).length + (T' i).length else 0)) : MC sp' N' T' B' df' db' nb' bb' := by
  obtain ⟨h1, h2, h3, h4⟩ := h
  have s1 := sumN_up (f := fun i => if cl sp B i = 1 then 1 else 0) (h := fun i => if cl sp' B' i = 1 then 1 else 0) (j := i) (n := 317) (i := 0) (by omega) (by omega) (fun k hk => by show (if cl sp' B' k = 1 then 1 else 0) = if cl sp B k = 1 then 1 else 0; rw [hc k hk])
  have s2 := sumN_up (f := fun i => if cl sp B i = 2 then 1 else 0) (h := fun i => if cl sp' B' i = 2 then 1 else 0) (j := i) (n := 317) (i := 0) (by omega) (by omega) (fun k hk => by show (if cl sp' B' k = 2 then 1 else 0) = if cl sp B k = 2 then 1 else 0; rw [hc k hk])
  have s3 := sumN_up (f := fun i => if cl sp B i = 1 then (N i).length + (T i).length else 0) (h := fun i => if cl sp' B' i = 1 then (N' i).length + (T' i).length else 0) (j := i) (n := 317) (i := 0) (by omega) (by omega) (fun k hk => by show (if cl sp' B' k = 1 then (N' k).length + (T' k).length else 0) = if cl sp B k = 1 then (N k).length + (T k).length else 0; rw [hc k hk, hN k hk, hT k hk])
  have s4 := sumN_up (f := fun i => if cl sp B i = 2 then (N i).length + (T i).length else 0) (h := fun i => if cl sp' B' i = 2 then (N' i).length + (T' i).length else 0) (j := i) (n := 317) (i := 0) (by omega) (by omega) (fun k hk => by show (if cl sp' B' k = 2 then (N' k).length + (T' k).length else 0) = if cl sp B k = 2 then (N k).length + (T k).length else 0; rw [hc k hk, hN k hk, hT k hk])
  have s1' : sumN (fun i => if cl sp' B' i = 1 then 1 else 0) 0 317 + (if cl sp B i = 1 then 1 else 0) = sumN (fun i => if cl sp B i = 1 then 1 else 0) 0 317 + (if cl sp' B' i = 1 then 1 else 0) := s1
  have s2' : sumN (fun i => if cl sp' B' i = 2 then 1 else 0) 0 317 + (if cl sp B i = 2 then 1 else 0) = sumN (fun i => if cl sp B i = 2 then 1 else 0) 0 317 + (if cl sp' B' i = 2 then 1 else 0) := s2
  have s3' : sumN (fun i => if cl sp' B' i = 1 then (N' i).length + (T' i).length else 0) 0 317 + (if cl sp B i = 1 then (N i).length + (T i).length else 0) = sumN (fun i => if cl sp B i = 1 then (N i).length + (T i).length else 0) 0 317 + (if cl sp' B' i = 1 then (N' i).length + (T' i).length else 0) := s3
  have s4' : sumN (fun i => if cl sp' B' i = 2 then (N' i).length + (T' i).length else 0) 0 317 + (if cl sp B i = 2 then (N i).length + (T i).length else 0) = sumN (fun i => if cl sp B i = 2 then (N i).length + (T i).length else 0) 0 317 + (if cl sp' B' i = 2 then (N' i).length + (T' i).length else 0) := s4
  rw [h1] at s1'; rw [h2] at s2'; rw [h3] at s3'; rw [h4] at s4'
  refine ⟨?_, ?_, ?_, ?_⟩ <;> omega
/-- a text is among the counted -/
theorem MC_ge {sp : List Nat} {N T : Nat → List Int32} {B : Nat → Option Nat} {df db nb bb i : Nat} (h : MC sp N T B df db nb bb) (hi : i < 317) (hs : i ∉ sp) (hB : B i = none) : 1 ≤ df ∧ (N i).length + (T i).length ≤ db := by
  obtain ⟨h1, h2, h3, h4⟩ := h
  have c : cl sp B i = 1 := by rw [cl, if_neg hs, if_pos hB]
  have s1 := sumN_ge (f := fun i => if cl sp B i = 1 then 1 else 0) (j := i) (n := 317) (i := 0) (by omega) (by omega)
  have s3 := sumN_ge (f := fun i => if cl sp B i = 1 then (N i).length + (T i).length else 0) (j := i) (n := 317) (i := 0) (by omega) (by omega)
  have s1' : (if cl sp B i = 1 then 1 else 0) ≤ df := h1 ▸ s1
  have s3' : (if cl sp B i = 1 then (N i).length + (T i).length else 0) ≤ db := h3 ▸ s3
  rw [if_pos c] at s1' s3'
  exact ⟨s1', s3'⟩
theorem MC_ge2 {sp : List Nat} {N T : Nat → List Int32} {B : Nat → Option Nat} {df db nb bb i : Nat} (h : MC sp N T B df db nb bb) (hi : i < 317) (hs : i ∉ sp) (hB : B i ≠ none) : 1 ≤ nb ∧ (N i).length + (T i).length ≤ bb := by
  obtain ⟨h1, h2, h3, h4⟩ := h
  have c : cl sp B i = 2 := by rw [cl, if_neg hs, if_neg hB]
  have s1 := sumN_ge (f := fun i => if cl sp B i = 2 then 1 else 0) (j := i) (n := 317) (i := 0) (by omega) (by omega)
  have s3 := sumN_ge (f := fun i => if cl sp B i = 2 then (N i).length + (T i).length else 0) (j := i) (n := 317) (i := 0) (by omega) (by omega)
  have s1' : (if cl sp B i = 2 then 1 else 0) ≤ nb := h2 ▸ s1
  have s3' : (if cl sp B i = 2 then (N i).length + (T i).length else 0) ≤ bb := h4 ▸ s3
  rw [if_pos c] at s1' s3'
  exact ⟨s1', s3'⟩
theorem cl_le (sp : List Nat) (B : Nat → Option Nat) (i : Nat) : cl sp B i = 0 ∧ i ∈ sp ∨ cl sp B i = 1 ∧ i ∉ sp ∨ cl sp B i = 2 ∧ i ∉ sp := by
  by_cases h : i ∈ sp
  · exact Or.inl ⟨by rw [cl, if_pos h], h⟩
  · by_cases hB : B i = none
    · exact Or.inr (Or.inl ⟨by rw [cl, if_neg h, if_pos hB], h⟩)
    · exact Or.inr (Or.inr ⟨by rw [cl, if_neg h, if_neg hB], h⟩)
/-- there is a spare meaning as long as there may be one more -/
theorem MC_spare {sp : List Nat} {N T : Nat → List Int32} {B : Nat → Option Nat} {df db nb bb : Nat} (h : MC sp N T B df db nb bb) (hn : nb ≤ 17) (hd : df < 300) : sp ≠ [] := by
  intro e
  obtain ⟨h1, h2, -, -⟩ := h
  have s : sumN (fun _ => 1) 0 317 = sumN (fun i => if cl sp B i = 1 then 1 else 0) 0 317 + sumN (fun i => if cl sp B i = 2 then 1 else 0) 0 317 := sumN_add (fun k _ _ => by
    rcases cl_le sp B k with c | c | c
    · rw [e] at c; exact absurd c.2 List.not_mem_nil
    · show 1 = (if cl sp B k = 1 then 1 else 0) + if cl sp B k = 2 then 1 else 0
      rw [c.1]; rfl
    · show 1 = (if cl sp B k = 1 then 1 else 0) + if cl sp B k = 2 then 1 else 0
      rw [c.1]; rfl)
  rw [h1, h2, sumN_const (c := 1) (fun _ _ _ => rfl)] at s
  omega
/-- all bytes are those of texts and of built-ins -/
theorem MC_by {sp : List Nat} {N T : Nat → List Int32} {B : Nat → Option Nat} {df db nb bb : Nat} (h : MC sp N T B df db nb bb) (hs : ∀ i ∈ sp, N i = [] ∧ T i = []) : byM N T = db + bb := by
  obtain ⟨-, -, h3, h4⟩ := h
  rw [byM, ← h3, ← h4]
  refine sumN_add (fun k _ _ => ?_)
  show (N k).length + (T k).length = (if cl sp B k = 1 then (N k).length + (T k).length else 0) + if cl sp B k = 2 then (N k).length + (T k).length else 0
  rcases cl_le sp B k with c | c | c
  · rw [c.1, (hs k c.2).1, (hs k c.2).2]; rfl
  · rw [c.1]; simp
  · rw [c.1]; simp
/-- the meanings of each name, newest first: a built-in or none, and the text -/
abbrev Mng : Type := List Int32 → List (Option Nat × List Int32)
def pu (P : Mng) (nm : List Int32) (L : List (Option Nat × List Int32)) : Mng := fun x => if x = nm then L else P x
def BF (bk : Nat → List Nat) (N T : Nat → List Int32) (B : Nat → Option Nat) (k : Nat) (nm : List Int32) : List (Option Nat × List Int32) := ((bk k).filter (fun i => decide (N i = nm))).map (fun i => (B i, T i))
def MP (g : mu_T) (P : Mng) (df db : Nat) : Prop := ∃ bk sp N T B nb bb, MS g bk sp N T B df db ∧ MC sp N T B df db nb bb ∧ nb ≤ 17 ∧ bb ≤ 128 ∧ df ≤ 300 ∧ db ≤ 16384 ∧ ∀ nm k, k < 128 → hsh nm &&& 127 = nI k → P nm = BF bk N T B k nm
theorem MP.sm {g k : mu_T} {U : List Nat} {P : Mng} {df db : Nat} (h : MP g P df db) (z : sm g k U) (hU : ∀ a, 25 ≤ a → a < 982 → a ∉ U) : MP k P df db := by
  obtain ⟨bk, sp, N, T, B, nb, bb, h1, h2⟩ := h
  exact ⟨bk, sp, N, T, B, nb, bb, h1.sm z hU, h2⟩
/-- what changes in one bucket at one meaning -/
theorem BF_same {bk bk' : Nat → List Nat} {N N' T T' : Nat → List Int32} {B B' : Nat → Option Nat} {k : Nat} {nm : List Int32} (e : bk' k = bk k) (h : ∀ i ∈ bk k, N' i = N i ∧ T' i = T i ∧ B' i = B i) : BF bk' N' T' B' k nm = BF bk N T B k nm := by
  rw [BF, BF, e]
  generalize bk k = L at h
  induction L with
  | nil => rfl
  | cons i L ih =>
    obtain ⟨h1, h2, h3⟩ := h i (List.mem_cons_self ..)
    have ih' := ih (fun j hj => h j (List.mem_cons_of_mem _ hj))
    rw [List.filter_cons, List.filter_cons, h1]
    split
    · rw [List.map_cons, List.map_cons, h2, h3, ih']
    · exact ih'
/-- the counts lose a meaning -/
def un1 (nm : List Int32) (e : Option Nat × List Int32) (c : Nat × Nat) : Nat × Nat := if e.1 = none then (c.1 - 1, c.2 - (nm.length + e.2.length)) else c
def unA (nm : List Int32) : List (Option Nat × List Int32) → Nat × Nat → Nat × Nat
  | [], c => c
  | e :: es, c => unA nm es (un1 nm e c)
