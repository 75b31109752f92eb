/-! Meanings: the state -/
def smL : Nat → Nat → List Nat
  | _, 0 => []
  | i, n + 1 => (32 + 3 * i) :: (33 + 3 * i) :: smL (i + 1) n
theorem smL_mem : ∀ {n i j : Nat}, j ∈ smL i n ↔ ∃ k, i ≤ k ∧ k < i + n ∧ (j = 32 + 3 * k ∨ j = 33 + 3 * k)
  | 0, i, j => ⟨fun h => absurd h (by simp [smL]), fun ⟨k, h1, h2, _⟩ => by omega⟩
  | n + 1, i, j => by
    simp only [smL, List.mem_cons, smL_mem (n := n) (i := i + 1)]
    refine ⟨fun h => ?_, fun ⟨k, h1, h2, h3⟩ => ?_⟩
    · rcases h with h | h | ⟨k, h1, h2, h3⟩
      · exact ⟨i, by omega, by omega, Or.inl h⟩
      · exact ⟨i, by omega, by omega, Or.inr h⟩
      · exact ⟨k, by omega, by omega, h3⟩
    · by_cases e : k = i
      · subst e; rcases h3 with h3 | h3
        · exact Or.inl h3
        · exact Or.inr (Or.inl h3)
      · exact Or.inr (Or.inr ⟨k, by omega, by omega, h3⟩)
theorem smL_nd : ∀ (n i : Nat), (smL i n).Nodup
  | 0, _ => List.Pairwise.nil
  | n + 1, i => by
    refine List.nodup_cons.mpr ⟨fun h => ?_, List.nodup_cons.mpr ⟨fun h => ?_, smL_nd n (i + 1)⟩⟩
    · rcases List.mem_cons.mp h with h | h
      · omega
      · obtain ⟨k, h1, h2, h3⟩ := smL_mem.mp h; omega
    · obtain ⟨k, h1, h2, h3⟩ := smL_mem.mp h; omega
def SM : List Nat := smL 0 317
theorem SM_nd : SM.Nodup := smL_nd 317 0
theorem SM_1 {i : Nat} (h : i < 317) : 32 + 3 * i ∈ SM := smL_mem.mpr ⟨i, by omega, by omega, Or.inl rfl⟩
theorem SM_2 {i : Nat} (h : i < 317) : 33 + 3 * i ∈ SM := smL_mem.mpr ⟨i, by omega, by omega, Or.inr rfl⟩
theorem SM_of {j : Nat} (h : j ∈ SM) : ∃ i, i < 317 ∧ (j = 32 + 3 * i ∨ j = 33 + 3 * i) := by
  obtain ⟨k, h1, h2, h3⟩ := smL_mem.mp h
  exact ⟨k, by omega, h3⟩
theorem rlk_same {nx ny : Nat → Option Nat} : ∀ {is : List Nat} {r : Option Nat}, (∀ i ∈ is, ny (31 + 3 * i) = nx (31 + 3 * i)) → rlk nx is r → rlk ny is r
  | [], _, _, h => h
  | i :: is, _, hs, ⟨h1, h2⟩ => ⟨h1, by rw [hs i (List.mem_cons_self ..)]; exact rlk_same (fun j hj => hs j (List.mem_cons_of_mem _ hj)) h2⟩
/-- meanings by their numbers: the name, the text, the built-in; bk the buckets, newest first, sp those to spare; df and db count what is defined -/
def MS (g : mu_T) (bk : Nat → List Nat) (sp : List Nat) (N T : Nat → List Int32) (B : Nat → Option Nat) (df db : Nat) : Prop :=
  gI g 25 1 = nI df ∧ gI g 25 2 = nI db ∧ (∃ ch fl fr, CW g 26 27 28 16512 SM ch fl fr ∧ ∀ i, i < 317 → bys g 27 (ch (32 + 3 * i)) = N i ∧ bys g 27 (ch (33 + 3 * i)) = T i) ∧
  (∀ k, k < 128 → rlk (fun a => gR g a 4) (bk k) (gR g 29 k)) ∧ rlk (fun a => gR g a 4) sp (gR g 25 5) ∧
  (∀ k, k < 128 → ∀ i ∈ bk k, i < 317 ∧ gI g (31 + 3 * i) 3 = hsh (N i) ∧ hsh (N i) &&& 127 = nI k) ∧
  (∀ i, i < 317 → gR g (31 + 3 * i) 2 = B i) ∧ (∀ i ∈ sp, i < 317 ∧ N i = [] ∧ T i = []) ∧
  (∀ k, k < 128 → (bk k).Nodup ∧ ∀ i ∈ bk k, i ∉ sp) ∧ sp.Nodup ∧ (∀ i, i < 317 → (∀ x ∈ N i, isByte x) ∧ ∀ x ∈ T i, isByte x)
/-- all meanings of bucket k are named, each by its own chain -/
theorem MS.mn {g : mu_T} {bk : Nat → List Nat} {sp : List Nat} {N T : Nat → List Int32} {B : Nat → Option Nat} {df db : Nat} (h : MS g bk sp N T B df db) : ∃ ch : Nat → List Nat, (∀ i, i < 317 → bys g 27 (ch i) = N i) ∧ ∀ k, k < 128 → ∀ i ∈ bk k, MN g i (ch i) := by
  obtain ⟨h1, h2, ⟨ch, fl, fr, hW, hN⟩, h4, h5, h6, h7, h8, h9, h10, h11⟩ := h
  refine ⟨fun i => ch (32 + 3 * i), fun i hi => (hN i hi).1, fun k hk i hi => ?_⟩
  obtain ⟨j1, j2, j3⟩ := h6 k hk i hi
  have hm := SM_1 j1
  have hfr := hW.2.2.2.2.2.2.2.1
  have hp := hW.2.2.2.2.2.2.2.2.2.2.2.1 _ hm
  have ht := tot_up (ch := ch) (x := []) hW.2.1 hm
  have hb := hW.2.2.2.2.2.2.2.2.1
  rw [List.length_nil] at ht
  refine ⟨j1, hW.2.2.2.1 _ hm, fun p hpp => by have := (hp.2 p hpp).1; omega, by show (ch (32 + 3 * i)).length ≤ 16512; omega, ?_, ?_⟩
  · show ∀ x ∈ bys g 27 (ch (32 + 3 * i)), isByte x
    rw [(hN i j1).1]; exact (h11 i j1).1
  · show gI g (31 + 3 * i) 3 = hsh (bys g 27 (ch (32 + 3 * i)))
    rw [(hN i j1).1]; exact j2
/-- find: the newest meaning of that name -/
theorem k_findM (l : Launch) (q : ev_T) {bk : Nat → List Nat} {sp : List Nat} {N T : Nat → List Int32} {B : Nat → Option Nat} {df db k : Nat} {b r0 n0 f n : Nat} {xs : List Int32} {ov : Bool} {g : mu_T} (hS : Shp g) (hM : MS g bk sp N T B df db) (hY : RB g b r0 n0 xs ov) (hn0 : n0 < 1073741824) (hfn : f + n ≤ xs.length) (hxb : ∀ x ∈ xs, isByte x) (hk1 : k < 128) (hk2 : hsh ((xs.drop f).take n) &&& 127 = nI k) : Ctr l q M_Ms_find 2 [.ref 25, .ref b, .int (nI f), .int (nI n)] (0, 0, g) (fun v w => v = some (va_rf (((bk k).find? (fun i => decide (N i = (xs.drop f).take n))).map (fun i => 31 + 3 * i))) ∧ w.2.2 = g) := by
  obtain ⟨ch, c1, c2⟩ := hM.mn
  refine (k_find l q hS hY hn0 hfn hxb hk1 hk2 (c2 k hk1) (hM.2.2.2.1 k hk1)).weak fun v w h => ⟨?_, h.2⟩
  rw [h.1]
  have e : ∀ is : List Nat, (∀ i ∈ is, i < 317) → is.find? (fun i => decide (bys g 27 (ch i) = (xs.drop f).take n)) = is.find? (fun i => decide (N i = (xs.drop f).take n)) := by
    intro is
    induction is with
    | nil => intro _; rfl
    | cons i is ih =>
      intro hi
      rw [List.find?_cons, List.find?_cons, c1 i (hi i (List.mem_cons_self ..)), ih (fun j hj => hi j (List.mem_cons_of_mem _ hj))]
  rw [e _ (fun i hi => (c2 k hk1 i hi).1)]
