/-! the first place of some bytes in others -/
def sf (p u : List Int32) (s : Nat) : Prop := s ≤ p.length ∧ p.take s <:+ u
theorem sf_0 {p u : List Int32} : sf p u 0 := ⟨Nat.zero_le _, by rw [List.take_zero]; exact List.nil_suffix⟩
theorem sf_len {p u : List Int32} {s : Nat} (h : sf p u s) : s ≤ u.length := by
  have := h.2.length_le
  rw [List.length_take] at this
  have := h.1
  omega
theorem sf_snoc {p u : List Int32} {b : Int32} {s : Nat} : sf p (u ++ [b]) (s + 1) ↔ sf p u s ∧ s < p.length ∧ p.getD s 0 = b := by
  have ht : ∀ h : s < p.length, p.take (s + 1) = p.take s ++ [p.getD s 0] := fun h => by
    rw [List.take_succ, List.getElem?_eq_getElem h, List.getD_eq_getElem?_getD, List.getElem?_eq_getElem h]; rfl
  constructor
  · rintro ⟨h1, h2⟩
    have h : s < p.length := by omega
    rw [ht h] at h2
    obtain ⟨w, hw⟩ := h2
    rw [← List.append_assoc] at hw
    have := List.append_inj' hw rfl
    exact ⟨⟨by omega, ⟨w, this.1⟩⟩, h, by have := this.2; simpa using this⟩
  · rintro ⟨⟨h1, w, hw⟩, h2, h3⟩
    refine ⟨by omega, w, ?_⟩
    rw [ht h2, ← List.append_assoc, hw, h3]
theorem sf_in {p u : List Int32} {s L : Nat} (h1 : sf p u s) (h2 : sf p u L) (h : s ≤ L) : sf p (p.take L) s := by
  refine ⟨h1.1, List.suffix_of_suffix_length_le h1.2 h2.2 ?_⟩
  rw [List.length_take, List.length_take]
  omega
theorem sf_tr {p u : List Int32} {s L : Nat} (h1 : sf p (p.take L) s) (h2 : sf p u L) : sf p u s := ⟨h1.1, h1.2.trans h2.2⟩
/-- the longest of each beginning that ends it and is not all of it -/
def BD (p : List Int32) (fb : Nat → Nat) (m : Nat) : Prop := ∀ k, 1 ≤ k → k ≤ m → fb (k - 1) < k ∧ sf p (p.take k) (fb (k - 1)) ∧ ∀ s, s < k → sf p (p.take k) s → s ≤ fb (k - 1)
/-- one step down -/
theorem kmp_down {p u : List Int32} {fb : Nat → Nat} {m L : Nat} {b : Int32} (hB : BD p fb m) (hL : 1 ≤ L) (hm : L ≤ m) (h1 : sf p u L) (h2 : ∀ s, sf p u s → s < p.length → p.getD s 0 = b → s ≤ L) (hb : ¬ p.getD L 0 = b) : fb (L - 1) < L ∧ sf p u (fb (L - 1)) ∧ ∀ s, sf p u s → s < p.length → p.getD s 0 = b → s ≤ fb (L - 1) := by
  obtain ⟨a, c, d⟩ := hB L hL hm
  refine ⟨a, sf_tr c h1, fun s hs hp he => ?_⟩
  have hle := h2 s hs hp he
  have hne : s ≠ L := fun e => hb (by rw [← e]; exact he)
  exact d s (by omega) (sf_in hs h1 hle)
theorem kmp_hit {p u : List Int32} {L : Nat} {b : Int32} (h1 : sf p u L) (h2 : ∀ s, sf p u s → s < p.length → p.getD s 0 = b → s ≤ L) (hl : L < p.length) (hb : p.getD L 0 = b) : sf p (u ++ [b]) (L + 1) ∧ ∀ s, sf p (u ++ [b]) s → s ≤ L + 1 := by
  refine ⟨sf_snoc.mpr ⟨h1, hl, hb⟩, fun s hs => ?_⟩
  cases s with
  | zero => omega
  | succ s =>
    obtain ⟨a, c, d⟩ := sf_snoc.mp hs
    have := h2 s a c d
    omega
theorem kmp_miss {p u : List Int32} {b : Int32} (h2 : ∀ s, sf p u s → s < p.length → p.getD s 0 = b → s ≤ 0) (hb : ¬ p.getD 0 0 = b) : sf p (u ++ [b]) 0 ∧ ∀ s, sf p (u ++ [b]) s → s ≤ 0 := by
  refine ⟨sf_0, fun s hs => ?_⟩
  cases s with
  | zero => omega
  | succ s =>
    obtain ⟨a, c, d⟩ := sf_snoc.mp hs
    have := h2 s a c d
    rw [show s = 0 by omega] at d
    exact absurd d hb
/-- the table's next row: what ends the beginning without its first -/
theorem BD_next {p : List Int32} {fb : Nat → Nat} {k s : Nat} (hB : BD p fb k) (hk : 1 ≤ k) (hkp : k < p.length) (h1 : sf p ((p.take (k + 1)).drop 1) s) (h2 : ∀ s2, sf p ((p.take (k + 1)).drop 1) s2 → s2 ≤ s) : BD p (va_up fb k s) (k + 1) := by
  intro j hj hj2
  by_cases e : j = k + 1
  · subst e
    rw [Nat.add_sub_cancel, up_eq]
    have hl : ((p.take (k + 1)).drop 1).length = k := by rw [List.length_drop, List.length_take]; omega
    have hs := sf_len h1
    refine ⟨by omega, ⟨h1.1, h1.2.trans (List.drop_suffix _ _)⟩, fun s2 h3 h4 => h2 s2 ⟨h4.1, ?_⟩⟩
    refine List.suffix_of_suffix_length_le h4.2 (List.drop_suffix _ _) ?_
    rw [hl, List.length_take]
    omega
  · rw [up_ne (by omega)]
    exact hB j hj (by omega)
/-- the first place, or -1 -/
def plc (t p : List Int32) : Int32 := match (List.range (t.length + 1)).find? (fun i => decide (i + p.length ≤ t.length ∧ (t.drop i).take p.length = p)) with
  | some i => nI i
  | none => -1
theorem sf_all {t p : List Int32} {k : Nat} (hk : k ≤ t.length) : sf p (t.take k) p.length ↔ ∃ i, i + p.length = k ∧ (t.drop i).take p.length = p := by
  constructor
  · rintro ⟨-, w, hw⟩
    rw [List.take_length] at hw
    refine ⟨w.length, ?_, ?_⟩
    · have := congrArg List.length hw
      rw [List.length_append, List.length_take] at this
      omega
    · have h2 : t = w ++ (p ++ t.drop k) := by rw [← List.append_assoc, hw, List.take_append_drop]
      have h3 : t.drop w.length = p ++ t.drop k := by
        conv => lhs; rw [h2]
        rw [List.drop_left]
      rw [h3, List.take_left]
  · rintro ⟨i, h1, h2⟩
    refine ⟨Nat.le_refl _, t.take i, ?_⟩
    rw [List.take_length, ← h1, List.take_add, h2]
theorem find_rng {q : Nat → Bool} {n i : Nat} (hi : i < n) (h1 : q i = true) (h2 : ∀ j, j < i → q j = false) : (List.range n).find? q = some i := by
  rw [List.find?_range_eq_some]
  exact ⟨h1, List.mem_range.mpr hi, fun j hj => by rw [h2 j hj]; rfl⟩
theorem plc_some {t p : List Int32} {i : Nat} (h1 : i + p.length ≤ t.length) (h2 : (t.drop i).take p.length = p) (h3 : ∀ j, j < i → ¬ (t.drop j).take p.length = p) : plc t p = nI i := by
  rw [plc, find_rng (i := i) (by omega) (decide_eq_true ⟨h1, h2⟩) (fun j hj => decide_eq_false (fun z => h3 j hj z.2))]
theorem plc_none {t p : List Int32} (h : ∀ i, i + p.length ≤ t.length → ¬ (t.drop i).take p.length = p) : plc t p = -1 := by
  have : (List.range (t.length + 1)).find? (fun i => decide (i + p.length ≤ t.length ∧ (t.drop i).take p.length = p)) = none := by
    rw [List.find?_eq_none]
    intro i _ z
    have := of_decide_eq_true z
    exact h i this.1 this.2
  rw [plc, this]
