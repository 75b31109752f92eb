/-! what becomes of the chains -/
theorem nodup_snoc {l : List Nat} {p : Nat} (h : l.Nodup) (hp : p ∉ l) : (l ++ [p]).Nodup := by
  refine List.nodup_append.mpr ⟨h, List.nodup_cons.mpr ⟨List.not_mem_nil, List.nodup_nil⟩, fun a ha b hb e => ?_⟩
  rw [List.mem_singleton] at hb
  exact hp (by rw [← hb, ← e]; exact ha)
theorem va_up_eq {α : Type} (f : Nat → α) (k : Nat) (x : α) : va_up f k x k = x := if_pos rfl
theorem va_up_ne' {α : Type} {f : Nat → α} {k j : Nat} {x : α} (h : j ≠ k) : va_up f k x j = f j := if_neg h
theorem snoc_or (l : List Nat) : l = [] ∨ ∃ qs q, l = qs ++ [q] := by
  rcases List.eq_nil_or_concat l with h | ⟨qs, q, h⟩
  · exact Or.inl h
  · exact Or.inr ⟨qs, q, by rw [h, List.concat_eq_append]⟩
theorem snoc_inj {a b : List Nat} {p q : Nat} (h : a ++ [p] = b ++ [q]) : a = b ∧ p = q := by
  have := List.append_inj' h rfl
  exact ⟨this.1, by simpa using this.2⟩
/-- one cell p more behind chain h -/
theorem CW.add1 {g k : mu_T} {c rb rn N h p fr fr2 : Nat} {S fl fl2 : List Nat} {ch : Nat → List Nat} (w : CW g c rb rn N S ch fl fr) (hh : h ∈ S) (z : sm g k [c, rb, rn, h])
    (hcase : (fl = p :: fl2 ∧ fr2 = fr ∧ gI k c 3 = gI g rn p) ∨ (fl = [] ∧ fl2 = [] ∧ p = fr ∧ fr2 = fr + 1 ∧ fr < N ∧ gI k c 3 = gI g c 3))
    (e2 : gI k c 2 = nI fr2) (e4 : gI k c 4 = nI (tot S ch + 1)) (l1 : gI k h 1 = nI p) (l2 : gI k h 2 = nI ((ch h).length + 1)) (l0 : gI k h 0 = if ch h = [] then nI p else gI g h 0)
    (n1 : gI k rn p = -1) (n2 : ∀ qs x, ch h = qs ++ [x] → gI k rn x = nI p) (n3 : ∀ x, x ≠ p → (∀ qs y, ch h = qs ++ [y] → x ≠ y) → gI k rn x = gI g rn x) : CW k c rb rn N S (va_up ch h (ch h ++ [p])) fl2 fr2 ∧ p ∉ ch h ∧ (∀ j ∈ S, p ∉ ch j) := by
  obtain ⟨i1, i2, i3, i4⟩ := w.ids
  obtain ⟨hC, hS, hcS, hch, w2, w3, w4, w5, w6, w7, w8, w9, w10⟩ := w
  have hpf : p ∉ fl2 ∧ p < fr2 ∧ (∀ j ∈ S, p ∉ ch j) ∧ fr2 ≤ N ∧ tot S ch + 1 + fl2.length = fr2 ∧ (∀ x ∈ fl2, x < fr2) ∧ fl2.Nodup ∧ fr ≤ fr2 ∧ ∀ x, x ∈ fl2 → x ∈ fl := by
    rcases hcase with ⟨e, f, -⟩ | ⟨e, f, m, n, o, -⟩
    · subst e; subst f
      have hn := List.nodup_cons.mp w8
      refine ⟨hn.1, w7 p List.mem_cons_self, fun j hj hp => ((w9 j hj).2 p hp).2 List.mem_cons_self, w5, ?_, fun x hx => w7 x (List.mem_cons_of_mem _ hx), hn.2, Nat.le_refl _, fun x hx => List.mem_cons_of_mem _ hx⟩
      simp only [List.length_cons] at w6
      omega
    · subst e; subst f; subst n
      refine ⟨List.not_mem_nil, by omega, fun j hj hp => ?_, by omega, by simp at w6 ⊢; omega, fun x hx => absurd hx List.not_mem_nil, List.nodup_nil, by omega, fun x hx => hx⟩
      have := ((w9 j hj).2 p hp).1
      omega
  obtain ⟨p1, p2, p3, p4, p5, p6, p7, p8, p9⟩ := hpf
  have hne : ∀ j ∈ S, ∀ x ∈ ch j, j ≠ h → gI k rn x = gI g rn x := fun j hj x hx hjh => by
    refine n3 x (fun e => p3 j hj (by rw [← e]; exact hx)) (fun qs y hy e => hjh ?_)
    exact w10 j hj h hh x hx (by rw [hy, e]; simp)
  have hcS' : ∀ j ∈ S, j ≠ h → j ∉ [c, rb, rn, h] := fun j hj hjh e => by
    simp only [List.mem_cons, List.not_mem_nil, or_false] at e
    rcases e with e | e | e | e
    · exact hcS (by rw [← e]; exact hj)
    · exact i1 (by rw [← e]; exact hj)
    · exact i2 (by rw [← e]; exact hj)
    · exact hjh e
  refine ⟨⟨hC.sm z, hS, hcS, fun j hj => ?_, e2, ?_, ?_, p4, ?_, p6, p7, fun j hj => ?_, fun j hj i hi x hx hy => ?_⟩, p3 h hh, p3⟩
  · by_cases hjh : j = h
    · subst hjh
      rw [va_up_eq]
      obtain ⟨y1, y2, y3, y4⟩ := hch j hj
      refine ⟨y1.sm z, by rw [l2]; simp, fun e => absurd e (by simp), fun qs x hx => ?_⟩
      obtain ⟨hq, hx⟩ := snoc_inj hx
      subst hx
      refine ⟨l1, -1, ?_⟩
      rcases snoc_or (ch j) with e | ⟨us, v, e⟩
      · rw [e] at l0 ⊢
        rw [l0, if_pos rfl]
        exact ⟨rfl, n1⟩
      · obtain ⟨-, d, y5⟩ := y4 us v e
        rw [l0, if_neg (by rw [e]; simp)]
        have hv : v ∉ us := by
          have := (w9 j hj).1
          rw [e] at this
          intro hv
          exact (List.nodup_append.mp this).2.2 v hv v (by simp) rfl
        rw [e] at y5 ⊢
        refine lkf_app (d := nI p) (lkf_end y5 hv (fun x hx => ?_) (n2 us v e)) ⟨rfl, n1⟩
        refine n3 x (fun e2 => p3 j hj (by rw [e, ← e2]; exact List.mem_append_left _ hx)) (fun qs y hy e2 => ?_)
        rw [e] at hy
        obtain ⟨-, hy2⟩ := snoc_inj hy
        exact hv (by rw [hy2, ← e2]; exact hx)
    · rw [va_up_ne' hjh]
      exact (hch j hj).keep z (hcS' j hj hjh) (fun x hx => hne j hj x hx hjh)
  · rcases hcase with ⟨e, -, f⟩ | ⟨e, e', -, -, -, f⟩
    · rw [f]
      rw [e] at w3
      refine lkf_same (fun x hx => ?_) w3.2
      refine n3 x (fun e2 => p1 (by rw [← e2]; exact hx)) (fun qs y hy e2 => ?_)
      exact ((w9 h hh).2 y (by rw [hy]; simp)).2 (by rw [← e2]; exact p9 x hx)
    · rw [e', f]
      rw [e] at w3
      exact w3
  · have := tot_up (ch := ch) (x := ch h ++ [p]) hS hh
    simp only [List.length_append, List.length_cons, List.length_nil] at this
    rw [e4]
    congr 1
    omega
  · have := tot_up (ch := ch) (x := ch h ++ [p]) hS hh
    simp only [List.length_append, List.length_cons, List.length_nil] at this
    omega
  · by_cases hjh : j = h
    · subst hjh
      rw [va_up_eq]
      refine ⟨nodup_snoc (w9 j hj).1 (p3 j hj), fun x hx => ?_⟩
      rcases List.mem_append.mp hx with hx | hx
      · have := (w9 j hj).2 x hx
        exact ⟨by omega, fun e => this.2 (p9 x e)⟩
      · rw [List.mem_singleton] at hx
        subst hx
        exact ⟨p2, p1⟩
    · rw [va_up_ne' hjh]
      refine ⟨(w9 j hj).1, fun x hx => ?_⟩
      have := (w9 j hj).2 x hx
      exact ⟨by omega, fun e => this.2 (p9 x e)⟩
  · have key : ∀ j ∈ S, x ∈ va_up ch h (ch h ++ [p]) j → x = p ∧ j = h ∨ x ∈ ch j := fun j hj hx => by
      by_cases hjh : j = h
      · subst hjh
        rw [va_up_eq] at hx
        rcases List.mem_append.mp hx with hx | hx
        · exact Or.inr hx
        · exact Or.inl ⟨List.mem_singleton.mp hx, rfl⟩
      · rw [va_up_ne' hjh] at hx
        exact Or.inr hx
    rcases key j hj hx with ⟨a1, a2⟩ | a1 <;> rcases key i hi hy with ⟨b1, b2⟩ | b1
    · rw [a2, b2]
    · exact absurd (by rw [← a1]; exact b1) (p3 i hi)
    · exact absurd (by rw [← b1]; exact a1) (p3 j hj)
    · exact w10 j hj i hi x a1 b1
