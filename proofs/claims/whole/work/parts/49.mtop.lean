/-! Meanings: a spare meaning comes on top of its bucket -/
theorem xRs {g : mu_T} {a b k j : Nat} {x : Option Nat} (h : b ≠ a ∨ j ≠ k) : gR (xR g a k x) b j = gR g b j := by
  rcases h with h | h
  · exact gR_na h
  · exact gR_nk h
theorem up_eq {α : Type} {f : Nat → α} {a : Nat} {x : α} : va_up f a x a = x := if_pos rfl
theorem up_ne {α : Type} {f : Nat → α} {a b : Nat} {x : α} (h : b ≠ a) : va_up f a x b = f b := if_neg h
theorem n_addOnTop {g w : mu_T} {bk : Nat → List Nat} {i k : Nat} {sp : List Nat} {N T : Nat → List Int32} {B : Nat → Option Nat} {df db : Nat} {ch : Nat → List Nat} {ps fl2 : List Nat} {fr2 : Nat} {nm : List Int32} (hM : MS g bk (i :: sp) N T B df db) (hN : ∀ i, i < 317 → bys g 27 (ch (32 + 3 * i)) = N i ∧ bys g 27 (ch (33 + 3 * i)) = T i) (hk1 : k < 128) (hk2 : hsh nm &&& 127 = nI k) (hnb : ∀ x ∈ nm, isByte x)
    (z : sm (xI (xR g 25 5 (gR g (31 + 3 * i) 4)) (31 + 3 * i) 3 (hsh nm)) w [26, 27, 28, 32 + 3 * i]) (hW : CW w 26 27 28 16512 SM (va_up ch (32 + 3 * i) (ch (32 + 3 * i) ++ ps)) fl2 fr2) (hb1 : bys w 27 (ch (32 + 3 * i) ++ ps) = bys g 27 (ch (32 + 3 * i)) ++ nm) (hb2 : ∀ j ∈ SM, j ≠ 32 + 3 * i → bys w 27 (ch j) = bys g 27 (ch j)) :
    MS (xR (xR w (31 + 3 * i) 4 (gR w 29 k)) 29 k (some (31 + 3 * i))) (va_up bk k (i :: bk k)) sp (va_up N i nm) T B df db := by
  obtain ⟨h1, h2, -, h4, h5, h6, h7, h8, h9, h10, h11⟩ := hM
  obtain ⟨i1, i2, i3⟩ := h8 i (List.mem_cons_self ..)
  have hnd := List.nodup_cons.mp h10
  have zR : sm w (xR (xR w (31 + 3 * i) 4 (gR w 29 k)) 29 k (some (31 + 3 * i))) [31 + 3 * i, 29] := ((sm.rf w _).xR (by simp)).xR (by simp)
  have hbn : ∀ j, j < 128 → ∀ x ∈ bk j, x ≠ i := fun j hj x hx e => (h9 j hj).2 x hx (by rw [e]; exact List.mem_cons_self ..)
  have hspn : ∀ x ∈ sp, x ≠ i := fun x hx e => hnd.1 (by rw [← e]; exact hx)
  have rw29 : ∀ j, gR w 29 j = gR g 29 j := fun j => (z.R (by simp; omega) j).trans (show gR (xR g 25 5 (gR g (31 + 3 * i) 4)) 29 j = gR g 29 j from xRs (Or.inl (by decide)))
  have rwm : ∀ x, x < 317 → x ≠ i → ∀ j, gR (xR (xR w (31 + 3 * i) 4 (gR w 29 k)) 29 k (some (31 + 3 * i))) (31 + 3 * x) j = gR g (31 + 3 * x) j := fun x hx hxi j => by
    rw [xRs (Or.inl (by omega)), xRs (Or.inl (by omega)), z.R (by simp; omega)]
    exact xRs (Or.inl (by omega))
  have f2 : ∀ j, j ≠ k → gR (xR (xR w (31 + 3 * i) 4 (gR w 29 k)) 29 k (some (31 + 3 * i))) 29 j = gR g 29 j := fun j e => by
    rw [xRs (Or.inr e), xRs (Or.inl (by omega)), rw29]
  have f3 : gR (xR (xR w (31 + 3 * i) 4 (gR w 29 k)) 29 k (some (31 + 3 * i))) (31 + 3 * i) 4 = gR g 29 k := by
    rw [xRs (Or.inl (by omega)), gR_eq, rw29]
  have f5 : gR (xR (xR w (31 + 3 * i) 4 (gR w 29 k)) 29 k (some (31 + 3 * i))) 25 5 = gR g (31 + 3 * i) 4 := by
    rw [xRs (Or.inl (by decide)), xRs (Or.inl (by omega)), z.R (by simp; omega)]
    show gR (xR g 25 5 (gR g (31 + 3 * i) 4)) 25 5 = _
    exact gR_eq _ _ _ _
  have iw : ∀ x, x < 317 → x ≠ i → ∀ j, gI w (31 + 3 * x) j = gI g (31 + 3 * x) j := fun x hx hxi j => by
    rw [z.I (by simp; omega), gI_na (by omega)]; rfl
  refine ⟨?_, ?_, ⟨_, _, _, hW.sm zR (by simp; omega) (by simp; omega) (fun a ha => ?_), fun x hx => ⟨?_, ?_⟩⟩, fun j hj => ?_, ?_, fun j hj x hx => ?_, fun x hx => ?_, fun x hx => ?_, fun j hj => ?_, hnd.2, fun x hx => ⟨?_, (h11 x hx).2⟩⟩
  · show gI w 25 1 = _
    rw [z.I (by simp; omega), gI_na (by omega)]; exact h1
  · show gI w 25 2 = _
    rw [z.I (by simp; omega), gI_na (by omega)]; exact h2
  · obtain ⟨y, hy, e⟩ := SM_of ha
    simp; omega
  · show bys w 27 _ = _
    by_cases e : x = i
    · subst e; rw [up_eq, up_eq, hb1, (hN x hx).1, i2, List.nil_append]
    · rw [up_ne (by omega), up_ne e, hb2 _ (SM_1 hx) (by omega)]; exact (hN x hx).1
  · show bys w 27 _ = _
    rw [up_ne (by omega), hb2 _ (SM_2 hx) (by omega)]; exact (hN x hx).2
  · by_cases e : j = k
    · subst e
      rw [up_eq, gR_eq]
      refine ⟨rfl, ?_⟩
      show rlk _ _ (gR _ (31 + 3 * i) 4)
      rw [f3]
      exact rlk_same (fun x hx => rwm x (h6 j hj x hx).1 (hbn j hj x hx) 4) (h4 j hj)
    · rw [up_ne e, f2 j e]
      exact rlk_same (fun x hx => rwm x (h6 j hj x hx).1 (hbn j hj x hx) 4) (h4 j hj)
  · rw [f5]
    exact rlk_same (fun x hx => rwm x (h8 x (List.mem_cons_of_mem _ hx)).1 (hspn x hx) 4) h5.2
  · show x < 317 ∧ gI w (31 + 3 * x) 3 = _ ∧ _
    have other : ∀ y ∈ bk j, y < 317 ∧ gI w (31 + 3 * y) 3 = hsh (va_up N i nm y) ∧ hsh (va_up N i nm y) &&& 127 = nI j := fun y hy => by
      obtain ⟨a1, a2, a3⟩ := h6 j hj y hy
      have n1 := hbn j hj y hy
      rw [up_ne n1, iw y a1 n1]; exact ⟨a1, a2, a3⟩
    by_cases e : j = k
    · subst e
      rw [up_eq] at hx
      rcases List.mem_cons.mp hx with hx | hx
      · subst hx
        refine ⟨i1, ?_, ?_⟩
        · rw [up_eq, z.I (by simp; omega), gI_eq]
        · rw [up_eq]; exact hk2
      · exact other x hx
    · rw [up_ne e] at hx; exact other x hx
  · by_cases e : x = i
    · subst e
      rw [xRs (Or.inl (by omega)), xRs (Or.inr (by decide)), z.R (by simp; omega)]
      exact (xRs (Or.inl (by omega))).trans (h7 x hx)
    · rw [rwm x hx e]; exact h7 x hx
  · obtain ⟨a1, a2, a3⟩ := h8 x (List.mem_cons_of_mem _ hx)
    exact ⟨a1, by rw [up_ne (hspn x hx)]; exact a2, a3⟩
  · by_cases e : j = k
    · subst e
      rw [up_eq]
      refine ⟨List.nodup_cons.mpr ⟨fun hx => hbn j hj i hx rfl, (h9 j hj).1⟩, fun x hx => ?_⟩
      rcases List.mem_cons.mp hx with hx | hx
      · rw [hx]; exact hnd.1
      · exact fun y => (h9 j hj).2 x hx (List.mem_cons_of_mem _ y)
    · rw [up_ne e]
      exact ⟨(h9 j hj).1, fun x hx y => (h9 j hj).2 x hx (List.mem_cons_of_mem _ y)⟩
  · by_cases e : x = i
    · subst e; rw [up_eq]; exact hnb
    · rw [up_ne e]; exact (h11 x hx).1
