/-! Meanings: how many bytes their chains hold -/
/-- the sum of f over n numbers from i on -/
def sumN (f : Nat → Nat) : Nat → Nat → Nat
  | _, 0 => 0
  | i, n + 1 => f i + sumN f (i + 1) n
theorem sumN_same {f h : Nat → Nat} : ∀ {n i : Nat}, (∀ k, i ≤ k → k < i + n → h k = f k) → sumN h i n = sumN f i n
  | 0, _, _ => rfl
  | n + 1, i, e => by
    rw [sumN, sumN, e i (by omega) (by omega), sumN_same (fun k h1 h2 => e k (by omega) (by omega))]
/-- one place gets another value -/
theorem sumN_up {f h : Nat → Nat} {j : Nat} : ∀ {n i : Nat}, i ≤ j → j < i + n → (∀ k, k ≠ j → h k = f k) → sumN h i n + f j = sumN f i n + h j
  | 0, _, h1, h2, _ => by omega
  | n + 1, i, h1, h2, e => by
    rw [sumN, sumN]
    by_cases c : i = j
    · subst c
      rw [sumN_same (f := f) (h := h) (fun k k1 k2 => e k (by omega))]
      omega
    · rw [e i c]
      have := sumN_up (f := f) (h := h) (j := j) (n := n) (i := i + 1) (by omega) (by omega) e
      omega
theorem tot_smL {ch : Nat → List Nat} {f : Nat → Nat} : ∀ {n i : Nat}, (∀ k, i ≤ k → k < i + n → (ch (32 + 3 * k)).length + (ch (33 + 3 * k)).length = f k) → tot (smL i n) ch = sumN f i n
  | 0, _, _ => rfl
  | n + 1, i, e => by
    have h1 := e i (by omega) (by omega)
    have h2 := tot_smL (ch := ch) (f := f) (n := n) (i := i + 1) (fun k a b => e k (by omega) (by omega))
    rw [tot] at h2 ⊢
    simp only [smL, List.map_cons, List.sum_cons, sumN]
    omega
/-- all bytes of names and texts -/
def byM (N T : Nat → List Int32) : Nat := sumN (fun i => (N i).length + (T i).length) 0 317
theorem tot_SM {g : mu_T} {ch : Nat → List Nat} {N T : Nat → List Int32} (h : ∀ i, i < 317 → bys g 27 (ch (32 + 3 * i)) = N i ∧ bys g 27 (ch (33 + 3 * i)) = T i) : tot SM ch = byM N T :=
  tot_smL (fun k _ hk => by
    have e := h k (by omega)
    rw [← e.1, ← e.2, bys, bys, List.length_map, List.length_map])
/-- an emptied or filled name, the others as they were -/
theorem byM_N {N T M : Nat → List Int32} {j : Nat} (hj : j < 317) (e : ∀ k, k ≠ j → M k = N k) : byM M T + (N j).length = byM N T + (M j).length := by
  have h := sumN_up (f := fun i => (N i).length + (T i).length) (h := fun i => (M i).length + (T i).length) (j := j) (n := 317) (i := 0) (by omega) (by omega) (fun k hk => by show (M k).length + _ = _; rw [e k hk])
  rw [byM, byM]
  omega
theorem byM_T {N T U : Nat → List Int32} {j : Nat} (hj : j < 317) (e : ∀ k, k ≠ j → U k = T k) : byM N U + (T j).length = byM N T + (U j).length := by
  have h := sumN_up (f := fun i => (N i).length + (T i).length) (h := fun i => (N i).length + (U i).length) (j := j) (n := 317) (i := 0) (by omega) (by omega) (fun k hk => by show _ + (U k).length = _; rw [e k hk])
  rw [byM, byM]
  omega
