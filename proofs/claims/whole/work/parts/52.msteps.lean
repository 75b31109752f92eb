/-! Meanings: steps of the state -/
def MA : List Nat := List.range' 25 5 ++ List.range' 31 951
theorem MA_mem {a : Nat} : a ∈ MA ↔ 25 ≤ a ∧ a < 982 ∧ a ≠ 30 := by
  rw [MA, List.mem_append, List.mem_range'_1, List.mem_range'_1]
  omega
theorem MS_cnt {g : mu_T} {bk : Nat → List Nat} {sp : List Nat} {N T : Nat → List Int32} {B : Nat → Option Nat} {df db : Nat} (d b : Nat) (h : MS g bk sp N T B df db) : MS (xI (xI g 25 1 (nI d)) 25 2 (nI b)) bk sp N T B d b := by
  obtain ⟨h1, h2, ⟨ch, fl, fr, hW, hN⟩, h4, h5, h6, h7, h8, h9, h10, h11⟩ := h
  have z : sm g (xI (xI g 25 1 (nI d)) 25 2 (nI b)) [25] := ((sm.rf g _).xI (by simp)).xI (by simp)
  refine ⟨(gI_nk (by decide)).trans (gI_eq _ _ _ _), gI_eq _ _ _ _, ⟨ch, fl, fr, hW.sm z (by decide) (by decide) (fun a ha => by obtain ⟨y, hy, e⟩ := SM_of ha; simp; omega), fun j hj => ?_⟩, h4, h5, fun j hj i hi => ?_, h7, h8, h9, h10, h11⟩
  · rw [bys_sm z (by decide), bys_sm z (by decide)]; exact hN j hj
  · obtain ⟨a1, a2, a3⟩ := h6 j hj i hi
    exact ⟨a1, by rw [gI_na (by omega), gI_na (by omega)]; exact a2, a3⟩
/-- the name's chain is emptied -/
theorem MS_clN {g w : mu_T} {bk : Nat → List Nat} {sp : List Nat} {N T : Nat → List Int32} {B : Nat → Option Nat} {df db i fr2 : Nat} {ch : Nat → List Nat} {fl2 : List Nat} (h : MS g bk sp N T B df db) (hN : ∀ i, i < 317 → bys g 27 (ch (32 + 3 * i)) = N i ∧ bys g 27 (ch (33 + 3 * i)) = T i) (hb : ∀ k, k < 128 → i ∉ bk k) (z : sm g w [26, 28, 32 + 3 * i]) (hW : CW w 26 27 28 16512 SM (va_up ch (32 + 3 * i) []) fl2 fr2) : MS w bk sp (va_up N i []) T B df db := by
  obtain ⟨h1, h2, -, h4, h5, h6, h7, h8, h9, h10, h11⟩ := h
  refine ⟨by rw [z.I (by simp; omega)]; exact h1, by rw [z.I (by simp; omega)]; exact h2, ⟨_, _, _, hW, fun x hx => ⟨?_, ?_⟩⟩, fun j hj => ?_, ?_, fun j hj x hx => ?_, fun x hx => ?_, fun x hx => ?_, h9, h10, fun x hx => ⟨?_, (h11 x hx).2⟩⟩
  · rw [bys_sm z (by simp; omega)]
    by_cases e : x = i
    · subst e; rw [up_eq, up_eq]; rfl
    · rw [up_ne (by omega), up_ne e]; exact (hN x hx).1
  · rw [bys_sm z (by simp; omega), up_ne (by omega)]; exact (hN x hx).2
  · rw [z.R (by simp; omega)]
    exact rlk_same (fun x hx => z.R (by have := (h6 j hj x hx).1; simp; omega) 4) (h4 j hj)
  · rw [z.R (by simp; omega)]
    exact rlk_same (fun x hx => z.R (by simp; omega) 4) h5
  · have e : x ≠ i := fun e => hb j hj (e ▸ hx)
    obtain ⟨a1, a2, a3⟩ := h6 j hj x hx
    exact ⟨a1, by rw [up_ne e, z.I (by simp; omega)]; exact a2, by rw [up_ne e]; exact a3⟩
  · rw [z.R (by simp; omega)]; exact h7 x hx
  · obtain ⟨a1, a2, a3⟩ := h8 x hx
    refine ⟨a1, ?_, a3⟩
    by_cases e : x = i
    · rw [e, up_eq]
    · rw [up_ne e]; exact a2
  · by_cases e : x = i
    · subst e; rw [up_eq]; exact fun y hy => absurd hy List.not_mem_nil
    · rw [up_ne e]; exact (h11 x hx).1
/-- the text's chain gets the bytes t -/
theorem MS_setT {g w : mu_T} {bk : Nat → List Nat} {sp : List Nat} {N T : Nat → List Int32} {B : Nat → Option Nat} {df db i fr2 : Nat} {ch : Nat → List Nat} {fl2 ps : List Nat} {t : List Int32} (h : MS g bk sp N T B df db) (hN : ∀ i, i < 317 → bys g 27 (ch (32 + 3 * i)) = N i ∧ bys g 27 (ch (33 + 3 * i)) = T i) (hs : i ∈ sp → t = []) (htb : ∀ x ∈ t, isByte x) (z : sm g w [26, 27, 28, 33 + 3 * i]) (hW : CW w 26 27 28 16512 SM (va_up ch (33 + 3 * i) ps) fl2 fr2) (hb1 : bys w 27 ps = t) (hb2 : ∀ j ∈ SM, j ≠ 33 + 3 * i → bys w 27 (ch j) = bys g 27 (ch j)) : MS w bk sp N (va_up T i t) B df db := by
  obtain ⟨h1, h2, -, h4, h5, h6, h7, h8, h9, h10, h11⟩ := h
  refine ⟨by rw [z.I (by simp; omega)]; exact h1, by rw [z.I (by simp; omega)]; exact h2, ⟨_, _, _, hW, fun x hx => ⟨?_, ?_⟩⟩, fun j hj => ?_, ?_, fun j hj x hx => ?_, fun x hx => ?_, fun x hx => ?_, h9, h10, fun x hx => ⟨(h11 x hx).1, ?_⟩⟩
  · rw [up_ne (by omega), hb2 _ (SM_1 hx) (by omega)]; exact (hN x hx).1
  · by_cases e : x = i
    · subst e; rw [up_eq, up_eq]; exact hb1
    · rw [up_ne (by omega), up_ne e, hb2 _ (SM_2 hx) (by omega)]; exact (hN x hx).2
  · rw [z.R (by simp; omega)]
    exact rlk_same (fun x hx => z.R (by have := (h6 j hj x hx).1; simp; omega) 4) (h4 j hj)
  · rw [z.R (by simp; omega)]
    exact rlk_same (fun x hx => z.R (by simp; omega) 4) h5
  · obtain ⟨a1, a2, a3⟩ := h6 j hj x hx
    exact ⟨a1, by rw [z.I (by simp; omega)]; exact a2, a3⟩
  · rw [z.R (by simp; omega)]; exact h7 x hx
  · obtain ⟨a1, a2, a3⟩ := h8 x hx
    refine ⟨a1, a2, ?_⟩
    by_cases e : x = i
    · rw [e, up_eq]; exact hs (e ▸ hx)
    · rw [up_ne e]; exact a3
  · by_cases e : x = i
    · subst e; rw [up_eq]; exact htb
    · rw [up_ne e]; exact (h11 x hx).2
/-- an empty meaning that is in no bucket goes to the spare ones -/
theorem MS_spare {g : mu_T} {bk : Nat → List Nat} {sp : List Nat} {N T : Nat → List Int32} {B : Nat → Option Nat} {df db i : Nat} (h : MS g bk sp N T B df db) (hi : i < 317) (hb : ∀ k, k < 128 → i ∉ bk k) (hs : i ∉ sp) (e1 : N i = []) (e2 : T i = []) : MS (xR (xR g (31 + 3 * i) 4 (gR g 25 5)) 25 5 (some (31 + 3 * i))) bk (i :: sp) N T B df db := by
  obtain ⟨h1, h2, ⟨ch, fl, fr, hW, hN⟩, h4, h5, h6, h7, h8, h9, h10, h11⟩ := h
  have z : sm g (xR (xR g (31 + 3 * i) 4 (gR g 25 5)) 25 5 (some (31 + 3 * i))) [31 + 3 * i, 25] := ((sm.rf g _).xR (by simp)).xR (by simp)
  have rw4 : ∀ x, x ≠ i → gR (xR (xR g (31 + 3 * i) 4 (gR g 25 5)) 25 5 (some (31 + 3 * i))) (31 + 3 * x) 4 = gR g (31 + 3 * x) 4 := fun x hx => by
    rw [xRs (Or.inl (by omega)), xRs (Or.inl (by omega))]
  refine ⟨h1, h2, ⟨ch, fl, fr, hW.sm z (by simp; omega) (by simp; omega) (fun a ha => by obtain ⟨y, hy, e⟩ := SM_of ha; simp; omega), fun j hj => hN j hj⟩, fun j hj => ?_, ⟨gR_eq _ _ _ _, ?_⟩, h6, fun x hx => ?_, fun x hx => ?_, fun j hj => ⟨(h9 j hj).1, fun x hx => ?_⟩, List.nodup_cons.mpr ⟨hs, h10⟩, h11⟩
  · rw [xRs (Or.inl (by decide)), xRs (Or.inl (by omega))]
    exact rlk_same (fun x hx => rw4 x (fun e => hb j hj (e ▸ hx))) (h4 j hj)
  · show rlk _ sp (gR _ (31 + 3 * i) 4)
    rw [xRs (Or.inl (by omega)), gR_eq]
    exact rlk_same (fun x hx => rw4 x (fun e => hs (e ▸ hx))) h5
  · rw [xRs (Or.inl (by omega)), xRs (Or.inr (by decide))]; exact h7 x hx
  · rcases List.mem_cons.mp hx with hx | hx
    · rw [hx]; exact ⟨hi, e1, e2⟩
    · exact h8 x hx
  · intro hy
    rcases List.mem_cons.mp hy with hy | hy
    · exact hb j hj (hy ▸ hx)
    · exact (h9 j hj).2 x hx hy
theorem MS_one {g : mu_T} {bk : Nat → List Nat} {sp : List Nat} {N T : Nat → List Int32} {B : Nat → Option Nat} {df db i j k : Nat} (h : MS g bk sp N T B df db) (hj : j < 128) (hk : k < 128) (h1 : i ∈ bk j) (h2 : i ∈ bk k) : j = k := by
  have a := (h.2.2.2.2.2.1 j hj i h1).2.2
  rw [(h.2.2.2.2.2.1 k hk i h2).2.2] at a
  exact ((nI_eq (by omega) (by omega)).mp a).symm
theorem rlk_cut {nx ny : Nat → Option Nat} {b i : Nat} {is : List Nat} : ∀ {ps : List Nat} {r : Option Nat}, (∀ x ∈ ps, ny (31 + 3 * x) = nx (31 + 3 * x)) → (∀ x ∈ is, ny (31 + 3 * x) = nx (31 + 3 * x)) → ny (31 + 3 * b) = nx (31 + 3 * i) → rlk nx (ps ++ b :: i :: is) r → rlk ny (ps ++ b :: is) r
  | [], _, _, h2, h3, ⟨e1, _, e3⟩ => ⟨e1, by rw [h3]; exact rlk_same h2 e3⟩
  | x :: _, _, h1, h2, h3, ⟨e1, e2⟩ => ⟨e1, by rw [h1 x (List.mem_cons_self ..)]; exact rlk_cut (fun y hy => h1 y (List.mem_cons_of_mem _ hy)) h2 h3 e2⟩
/-- the first of a bucket leaves it -/
theorem MS_unl0 {g : mu_T} {bk : Nat → List Nat} {sp : List Nat} {N T : Nat → List Int32} {B : Nat → Option Nat} {df db i k : Nat} {is : List Nat} (h : MS g bk sp N T B df db) (hk : k < 128) (hbk : bk k = i :: is) : MS (xR g 29 k (gR g (31 + 3 * i) 4)) (va_up bk k is) sp N T B df db := by
  obtain ⟨h1, h2, ⟨ch, fl, fr, hW, hN⟩, h4, h5, h6, h7, h8, h9, h10, h11⟩ := h
  have z : sm g (xR g 29 k (gR g (31 + 3 * i) 4)) [29] := (sm.rf g _).xR (by simp)
  have hin : ∀ x ∈ is, x ∈ bk k := fun x hx => by rw [hbk]; exact List.mem_cons_of_mem _ hx
  have hsub : ∀ j, j < 128 → ∀ x ∈ va_up bk k is j, x ∈ bk j := fun j hj x hx => by
    by_cases e : j = k
    · subst e; rw [up_eq] at hx; exact hin x hx
    · rw [up_ne e] at hx; exact hx
  refine ⟨h1, h2, ⟨ch, fl, fr, hW.sm z (by decide) (by decide) (fun a ha => by obtain ⟨y, hy, e⟩ := SM_of ha; simp; omega), fun j hj => hN j hj⟩, fun j hj => ?_, ?_, fun j hj x hx => h6 j hj x (hsub j hj x hx), fun x hx => ?_, h8, fun j hj => ⟨?_, fun x hx => (h9 j hj).2 x (hsub j hj x hx)⟩, h10, h11⟩
  · by_cases e : j = k
    · subst e
      rw [up_eq, gR_eq]
      have := h4 j hj
      rw [hbk] at this
      exact rlk_same (fun x hx => xRs (Or.inl (by omega))) this.2
    · rw [up_ne e, xRs (Or.inr e)]
      exact rlk_same (fun x hx => xRs (Or.inl (by omega))) (h4 j hj)
  · rw [xRs (Or.inl (by decide))]
    exact rlk_same (fun x hx => xRs (Or.inl (by omega))) h5
  · rw [xRs (Or.inl (by omega))]; exact h7 x hx
  · by_cases e : j = k
    · subst e; rw [up_eq]
      have := (h9 j hj).1
      rw [hbk] at this
      exact (List.nodup_cons.mp this).2
    · rw [up_ne e]; exact (h9 j hj).1
/-- one behind another leaves the bucket -/
theorem MS_unl1 {g : mu_T} {bk : Nat → List Nat} {sp : List Nat} {N T : Nat → List Int32} {B : Nat → Option Nat} {df db b i k : Nat} {ps is : List Nat} (h : MS g bk sp N T B df db) (hk : k < 128) (hbk : bk k = ps ++ b :: i :: is) : MS (xR g (31 + 3 * b) 4 (gR g (31 + 3 * i) 4)) (va_up bk k (ps ++ b :: is)) sp N T B df db := by
  have hone := h
  obtain ⟨h1, h2, ⟨ch, fl, fr, hW, hN⟩, h4, h5, h6, h7, h8, h9, h10, h11⟩ := h
  have z : sm g (xR g (31 + 3 * b) 4 (gR g (31 + 3 * i) 4)) [31 + 3 * b] := (sm.rf g _).xR (by simp)
  have hbin : b ∈ bk k := by rw [hbk]; simp
  have hb := (h6 k hk b hbin).1
  have hin : ∀ x ∈ ps ++ b :: is, x ∈ bk k := fun x hx => by
    rw [hbk]; simp only [List.mem_append, List.mem_cons] at hx ⊢
    rcases hx with hx | hx | hx
    · exact Or.inl hx
    · exact Or.inr (Or.inl hx)
    · exact Or.inr (Or.inr (Or.inr hx))
  have hsub : ∀ j, j < 128 → ∀ x ∈ va_up bk k (ps ++ b :: is) j, x ∈ bk j := fun j hj x hx => by
    by_cases e : j = k
    · subst e; rw [up_eq] at hx; exact hin x hx
    · rw [up_ne e] at hx; exact hx
  have hnd := (h9 k hk).1
  rw [hbk] at hnd
  have hnd2 := List.nodup_append.mp hnd
  have hnd3 := List.nodup_cons.mp hnd2.2.1
  have o4 : ∀ x, x ≠ b → gR (xR g (31 + 3 * b) 4 (gR g (31 + 3 * i) 4)) (31 + 3 * x) 4 = gR g (31 + 3 * x) 4 := fun x hx => xRs (Or.inl (by omega))
  refine ⟨h1, h2, ⟨ch, fl, fr, hW.sm z (by simp; omega) (by simp; omega) (fun a ha => by obtain ⟨y, hy, e⟩ := SM_of ha; simp; omega), fun j hj => hN j hj⟩, fun j hj => ?_, ?_, fun j hj x hx => h6 j hj x (hsub j hj x hx), fun x hx => ?_, h8, fun j hj => ⟨?_, fun x hx => (h9 j hj).2 x (hsub j hj x hx)⟩, h10, h11⟩
  · rw [xRs (Or.inl (by omega))]
    by_cases e : j = k
    · subst e
      rw [up_eq]
      have := h4 j hj
      rw [hbk] at this
      refine rlk_cut (fun x hx => o4 x (fun e => ?_)) (fun x hx => o4 x (fun e => ?_)) (gR_eq _ _ _ _) this
      · exact hnd2.2.2 x hx b (by simp) e
      · exact hnd3.1 (List.mem_cons_of_mem _ (e ▸ hx))
    · rw [up_ne e]
      exact rlk_same (fun x hx => o4 x (fun e2 => e (MS_one hone hj hk (e2 ▸ hx) hbin))) (h4 j hj)
  · rw [xRs (Or.inl (by omega))]
    exact rlk_same (fun x hx => o4 x (fun e2 => (h9 k hk).2 b hbin (e2 ▸ hx))) h5
  · rw [xRs (Or.inr (by decide))]; exact h7 x hx
  · by_cases e : j = k
    · subst e; rw [up_eq]
      refine List.nodup_append.mpr ⟨hnd2.1, List.nodup_cons.mpr ⟨fun hx => hnd3.1 (List.mem_cons_of_mem _ hx), (List.nodup_cons.mp hnd3.2).2⟩, fun x hx y hy => hnd2.2.2 x hx y ?_⟩
      rcases List.mem_cons.mp hy with hy | hy
      · rw [hy]; simp
      · simp [hy]
    · rw [up_ne e]; exact (h9 j hj).1
theorem on_or {α : Type} (o : Option α) : o = none ∨ ∃ x, o = some x := by
  cases o with
  | none => exact Or.inl rfl
  | some x => exact Or.inr ⟨x, rfl⟩
