/-! a run: what stays true from token to token -/
def FO (fs : List Fr) : Prop := ∀ f ∈ fs, f.2.1 ≠ [] ∧ 0 < f.2.2.1 ∧ f.2.2.1 ≤ 1 + f.2.1.flatten.length
def RI (S : Mst) : Prop := S.2.2.1.2 = false ∧ FO S.2.2.1.1 ∧ OKP S.2.2.2.1.1
theorem FO_ntT : ∀ {fs : List Fr}, FO fs → FO (ntT fs)
  | [], h => h
  | f :: r, h => fun x hx => by
    rcases List.mem_cons.mp hx with hx | hx
    · subst hx; exact h f (List.mem_cons_self ..)
    · exact h x (List.mem_cons_of_mem _ hx)
theorem FO_cons {f : Fr} {r : List Fr} (h1 : f.2.1 ≠ [] ∧ 0 < f.2.2.1 ∧ f.2.2.1 ≤ 1 + f.2.1.flatten.length) (h2 : FO r) : FO (f :: r) := fun x hx => by
  rcases List.mem_cons.mp hx with hx | hx
  · rw [hx]; exact h1
  · exact h2 x hx
theorem FO_tl {f : Fr} {r : List Fr} (h : FO (f :: r)) : FO r := fun x hx => h x (List.mem_cons_of_mem _ hx)
theorem apL_ne {t : List Int32} : ∀ {as : List (List Int32)}, as ≠ [] → apL as t ≠ [] ∧ (apL as t).flatten.length = as.flatten.length + t.length
  | [], h => absurd rfl h
  | [a], _ => ⟨fun h => (by cases h), by simp [apL]⟩
  | a :: b :: as, _ => by
    have := apL_ne (t := t) (as := b :: as) (fun h => by cases h)
    refine ⟨fun h => (by cases h), ?_⟩
    show (a :: apL (b :: as) t).flatten.length = _
    rw [List.flatten_cons, List.length_append, this.2, List.flatten_cons (l := a), List.length_append]
    omega
/-- the state after a token, where there was no error -/
def RJ (S : Mst) : Prop := OKP S.2.2.2.1.1 ∧ ((S.2.2.1.2 = false ∧ FO S.2.2.1.1) ∨ (S.2.2.1.2 = true ∧ ∃ f r, S.2.2.1.1 = f :: r ∧ FO r))
theorem hld_RJ {tk : List Int32} {f : Fr} {r : List Fr} {S : Mst} (hok : OKP S.2.2.2.1.1) (hr : FO r) (h1 : f.2.1 ≠ []) (h2 : 0 < f.2.2.1) (h3 : f.2.2.1 ≤ 1 + f.2.1.flatten.length + tk.length) (he : (hld tk f r S).1 = 0) : RJ (hld tk f r S).2 := by
  rw [hld] at he ⊢
  split
  · have ha := apL_ne (t := tk) h1
    exact ⟨hok, Or.inl ⟨rfl, FO_cons ⟨ha.1, h2, by show f.2.2.1 ≤ 1 + (apL f.2.1 tk).flatten.length; rw [ha.2]; omega⟩ hr⟩⟩
  · rename_i c
    rw [if_neg c] at he
    exact absurd he (show ¬ (40 : Int32) = 0 by decide)
theorem usT_RJ {kd : Int32} {tk : List Int32} {S : Mst} (h : RI S) (hk : kd = 4 → tk.length = 1) (he : (usT kd tk S).1 = 0) : RJ (usT kd tk S).2 := by
  obtain ⟨h1, h2, h3⟩ := h
  rw [usT] at he ⊢
  by_cases c : kd = 3 ∧ isCl S tk = true
  · rw [if_pos c] at he ⊢
    rw [opC] at he ⊢
    by_cases c1 : 50 ≤ S.2.2.1.1.length
    · rw [if_pos c1] at he; exact absurd he (show ¬ (34 : Int32) = 0 by decide)
    rw [if_neg c1] at he ⊢
    by_cases c2 : 16384 < (hl S.2.2.1.1).length + tk.length
    · rw [if_pos c2] at he; exact absurd he (show ¬ (40 : Int32) = 0 by decide)
    rw [if_neg c2] at he ⊢
    by_cases c3 : ¬ atL S.1.1 (nI 0) = 40
    · rw [if_pos c3]
      exact ⟨h3, Or.inr ⟨rfl, _, _, rfl, FO_ntT h2⟩⟩
    rw [if_neg c3] at he ⊢
    by_cases c4 : tkV S.1 < 0
    · rw [if_pos c4] at he; exact absurd he (show ¬ (31 : Int32) = 0 by decide)
    rw [if_neg c4] at he ⊢
    by_cases c5 : na S.2.2.1.1 < 8192
    · rw [if_pos c5]
      exact ⟨h3, Or.inl ⟨rfl, FO_cons ⟨fun h => (by cases h), (by show 0 < 1; omega), (by show 1 ≤ 1 + _; omega)⟩ (FO_ntT h2)⟩⟩
    · rw [if_neg c5] at he; exact absurd he (show ¬ (40 : Int32) = 0 by decide)
  · rw [if_neg c] at he ⊢
    cases hfs : S.2.2.1.1 with
    | nil =>
      rw [hfs] at he
      exact ⟨h3, Or.inl ⟨h1, by show FO S.2.2.1.1; exact h2⟩⟩
    | cons f r =>
      rw [hfs] at he h2
      have hf := h2 f (List.mem_cons_self ..)
      have hr := FO_tl h2
      have he : (uiA kd tk f r S).1 = 0 := he
      show RJ (uiA kd tk f r S).2
      rw [uiA] at he ⊢
      by_cases k4 : kd = 4
      · have htk := hk k4
        rw [if_pos k4] at he ⊢
        by_cases c1 : isSpc (atL tk (nI 0)) = true ∧ ¬ f.2.2.2 = true
        · rw [if_pos c1]
          exact ⟨h3, Or.inl ⟨h1, by rw [hfs]; exact h2⟩⟩
        rw [if_neg c1] at he ⊢
        by_cases c2 : atL tk (nI 0) = 44 ∧ f.2.2.1 = 1
        · rw [if_pos c2] at he ⊢
          by_cases c3 : na (f :: r) < 8192
          · rw [if_pos c3]
            refine ⟨h3, Or.inl ⟨rfl, FO_cons ⟨?_, hf.2.1, ?_⟩ hr⟩⟩
            · show f.2.1 ++ [[]] ≠ []
              exact fun h => by cases List.append_eq_nil_iff.mp h with | intro a b => cases b
            · show f.2.2.1 ≤ 1 + (f.2.1 ++ [[]]).flatten.length
              rw [List.flatten_append, List.length_append]
              have := hf.2.2
              omega
          · rw [if_neg c3] at he; exact absurd he (show ¬ (40 : Int32) = 0 by decide)
        rw [if_neg c2] at he ⊢
        by_cases c3 : atL tk (nI 0) = 40
        · rw [if_pos c3] at he ⊢
          exact hld_RJ h3 hr hf.1 (by show 0 < f.2.2.1 + 1; omega) (by show f.2.2.1 + 1 ≤ 1 + f.2.1.flatten.length + tk.length; have := hf.2.2; omega) he
        rw [if_neg c3] at he ⊢
        by_cases c4 : atL tk (nI 0) = 41
        · rw [if_pos c4] at he ⊢
          by_cases c5 : f.2.2.1 = 1
          · rw [if_pos c5]
            exact ⟨h3, Or.inr ⟨rfl, _, _, rfl, hr⟩⟩
          · rw [if_neg c5] at he ⊢
            exact hld_RJ h3 hr hf.1 (by show 0 < f.2.2.1 - 1; have := hf.2.1; omega) (by show f.2.2.1 - 1 ≤ 1 + f.2.1.flatten.length + tk.length; have := hf.2.2; omega) he
        rw [if_neg c4] at he ⊢
        exact hld_RJ h3 hr hf.1 hf.2.1 (by have := hf.2.2; omega) he
      · rw [if_neg k4] at he ⊢
        exact hld_RJ h3 hr hf.1 hf.2.1 (by have := hf.2.2; omega) he
theorem OKP_pu {P : Mng} {nm : List Int32} {L : List (Option Nat × List Int32)} (h : OKP P) (hL : ∀ e ∈ L, ∀ c, e.1 = some c → ∃ j, j < 17 ∧ c = 1048576 + j) : OKP (pu P nm L) := fun x e he c hc => by
  rw [pu] at he
  split at he
  · exact hL e he c hc
  · exact h x e he c hc
theorem OKP_tkO {all : Bool} {S : Mng × Nat × Nat} {nm : List Int32} (h : OKP S.1) : OKP (tkO all S nm).1 := OKP_pu h (fun e he c hc => h nm e (List.mem_of_mem_drop he) c hc)
theorem OKP_fold {all : Bool} : ∀ {as : List (List Int32)} {S : Mng × Nat × Nat}, OKP S.1 → OKP (as.foldl (tkO all) S).1
  | [], _, h => h
  | _ :: as, _, h => OKP_fold (as := as) (OKP_tkO h)
theorem OKP_dfn {onTop : Bool} {nm t : List Int32} {P : Mng} {df db : Nat} {R : Mng × Nat × Nat} (h : OKP P) (hR : dfn onTop nm t P df db = some R) : OKP R.1 := by
  have key : ∀ L : List (Option Nat × List Int32), (∀ e ∈ L, e ∈ P nm) → OKP (pu P nm ((none, t) :: L)) := fun L hL => OKP_pu h (fun e he c hc => by
    rcases List.mem_cons.mp he with he | he
    · rw [he] at hc; cases hc
    · exact h nm e (hL e he) c hc)
  rw [dfn] at hR
  split at hR
  · split at hR
    · cases hR; exact key _ (fun e he => List.mem_of_mem_tail he)
    · cases hR
  · split at hR
    · cases hR; exact key _ (fun e he => List.mem_of_mem_tail he)
    · cases hR
  · split at hR
    · cases hR; exact key _ (fun e he => he)
    · cases hR
theorem OKP_def {onTop c : Bool} {nm t : List Int32} {S : Mng × Nat × Nat} (h : OKP S.1) : OKP (if c = true then (dfn onTop nm t S.1 S.2.1 S.2.2).getD S else S).1 := by
  split
  · rcases on_or (dfn onTop nm t S.1 S.2.1 S.2.2) with e | ⟨R, e⟩
    · rw [e]; exact h
    · rw [e]; exact OKP_dfn h e
  · exact h
theorem bI_OKP {j : Nat} {S : Mst} {f : Fr} (hj : j < 17) (h : OKP S.2.2.2.1.1) : OKP (bI j S f).2.1.2.2.2.1.1 := by
  have hc : j = 0 ∨ j = 1 ∨ j = 2 ∨ j = 3 ∨ j = 4 ∨ j = 5 ∨ j = 6 ∨ j = 7 ∨ j = 8 ∨ j = 9 ∨ j = 10 ∨ j = 11 ∨ j = 12 ∨ j = 13 ∨ j = 14 ∨ j = 15 ∨ j = 16 := by omega
  rcases hc with rfl | rfl | rfl | rfl | rfl | rfl | rfl | rfl | rfl | rfl | rfl | rfl | rfl | rfl | rfl | rfl | rfl
  · exact OKP_def (S := S.2.2.2.1) h
  · exact OKP_def (S := S.2.2.2.1) h
  · exact OKP_fold h
  · exact OKP_fold h
  all_goals exact h
theorem fnE_RI {r : List Fr} {e : Int32} {S : Mst} {F : List Int32} (h : OKP S.2.2.2.1.1) (hr : FO r) : RI (fnE r e S F).2 := by
  rw [fnE]
  split
  · split
    · exact ⟨rfl, hr, h⟩
    · exact ⟨rfl, hr, h⟩
  · exact ⟨rfl, hr, h⟩
theorem fnC_RI {f : Fr} {r : List Fr} {S : Mst} (h : OKP S.2.2.2.1.1) (hr : FO r) : RI (fnC f r S).2 := by
  rw [fnC]
  cases hP : S.2.2.2.1.1 f.1 with
  | nil => exact fnE_RI h hr
  | cons e L =>
    obtain ⟨c, t⟩ := e
    cases c with
    | none => exact fnE_RI h hr
    | some c =>
      obtain ⟨j, hj, rfl⟩ := h f.1 (some c, t) (by rw [hP]; simp) c rfl
      show RI (fnE r (bI (1048576 + j - 1048576) S f).1 _ _).2
      rw [Nat.add_sub_cancel_left]
      exact fnE_RI (bI_OKP hj h) hr
/-- what follows a token -/
def fnX (S : Mst) : Int32 × Mst := if S.2.2.1.2 = true then (match S.2.2.1.1 with
  | [] => (0, S)
  | f :: r => fnC f r S) else (0, S)
theorem fnX_RI {S : Mst} (h : RJ S) : RI (fnX S).2 := by
  obtain ⟨h1, h2⟩ := h
  rw [fnX]
  rcases h2 with ⟨a, b⟩ | ⟨a, f, r, b, c⟩
  · rw [if_neg (by rw [a]; decide)]
    exact ⟨a, b, h1⟩
  · rw [if_pos a, b]
    exact fnC_RI h1 c
/-- tokens, one behind another: the error, or 0; the state; the line of the last token -/
def rnL : Nat → Int32 → List Int32 → Mst → Int32 → Int32 × Mst × Int32
  | 0, _, _, S, tl => (0, S, tl)
  | n + 1, kd, tk, S, tl => if kd = 0 then (0, S, tl) else if ¬ (usT kd tk S).1 = 0 then ((usT kd tk S).1, (usT kd tk S).2, tl) else if ¬ (fnX (usT kd tk S).2).1 = 0 then ((fnX (usT kd tk S).2).1, (fnX (usT kd tk S).2).2, tl)
    else if ¬ (rdT (fnX (usT kd tk S).2).2.2.1.1 (fnX (usT kd tk S).2).2.2.1.2 (fnX (usT kd tk S).2).2.1).2.1 = 0 then ((rdT (fnX (usT kd tk S).2).2.2.1.1 (fnX (usT kd tk S).2).2.2.1.2 (fnX (usT kd tk S).2).2.1).2.1, sI (fnX (usT kd tk S).2).2 (rdT (fnX (usT kd tk S).2).2.2.1.1 (fnX (usT kd tk S).2).2.2.1.2 (fnX (usT kd tk S).2).2.1).2.2.1, nI ((fnX (usT kd tk S).2).2.1.2.2.2 + 1))
    else rnL n (rdT (fnX (usT kd tk S).2).2.2.1.1 (fnX (usT kd tk S).2).2.2.1.2 (fnX (usT kd tk S).2).2.1).1 (rdT (fnX (usT kd tk S).2).2.2.1.1 (fnX (usT kd tk S).2).2.2.1.2 (fnX (usT kd tk S).2).2.1).2.2.2 (sI (fnX (usT kd tk S).2).2 (rdT (fnX (usT kd tk S).2).2.2.1.1 (fnX (usT kd tk S).2).2.2.1.2 (fnX (usT kd tk S).2).2.1).2.2.1) (nI ((fnX (usT kd tk S).2).2.1.2.2.2 + 1))
theorem rdT_4 {op cl : List Int32} {I : Ip} (h : (rdT op cl I).1 = 4) (he : (rdT op cl I).2.1 = 0) : (rdT op cl I).2.2.2.length = 1 := by
  rw [rdT] at h he ⊢
  split at h
  · exact absurd h (show ¬ (0 : Int32) = 4 by decide)
  split at h
  · exact absurd h (show ¬ (1 : Int32) = 4 by decide)
  split at h
  · exact absurd h (show ¬ (2 : Int32) = 4 by decide)
  split at h
  · exact absurd h (show ¬ (3 : Int32) = 4 by decide)
  rename_i c1 c2 c3 c4
  rw [if_neg c1, if_neg c2, if_neg c3, if_neg c4] at he ⊢
  have he : (if tkV I < 0 then (31 : Int32) else 0) = 0 := he
  have hv : ¬ tkV I < 0 := fun z => by rw [if_pos z] at he; exact absurd he (show ¬ (31 : Int32) = 0 by decide)
  show (if tkV I < 0 then [] else [I.1.getD 0 0]).length = 1
  rw [if_neg hv]; rfl
