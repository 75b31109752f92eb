/-! the reference: the run of the one machine, without a bound of its own -/
theorem tkI_fl (I : Ip) : (tkI I).2.2.1 ≤ I.2.2.1 ∧ (¬ tkV I < 0 → (tkI I).2.2.1 < I.2.2.1) := by
  obtain ⟨u, m, f, n⟩ := I
  cases u with
  | nil => exact ⟨Nat.le_refl _, fun h => absurd (show (-1 : Int32) < 0 by decide) h⟩
  | cons x u =>
    cases f with
    | zero => exact ⟨Nat.le_refl _, fun h => absurd (show (-1 : Int32) < 0 by decide) h⟩
    | succ f =>
      rw [show tkI (x :: u, m, f + 1, n) = if u.length < m then (u, u.length, f, n + (if x &&& 255 = 10 then 1 else 0)) else (u, m, f, n) from rfl]
      split
      · exact ⟨Nat.le_succ _, fun _ => Nat.lt_succ_self _⟩
      · exact ⟨Nat.le_succ _, fun _ => Nat.lt_succ_self _⟩
theorem tkL_fl : ∀ (n : Nat) (I : Ip), (tkL n I).2.1.2.2.1 ≤ I.2.2.1 ∧ (0 < n → (tkL n I).1 = true → (tkL n I).2.1.2.2.1 < I.2.2.1)
  | 0, I => ⟨Nat.le_refl _, fun h => absurd h (by decide)⟩
  | n + 1, I => by
    by_cases c : tkV I < 0
    · rw [show tkL (n + 1) I = (false, I, []) from if_pos c]
      exact ⟨Nat.le_refl _, fun _ h => by cases h⟩
    · rw [show tkL (n + 1) I = ((tkL n (tkI I)).1, (tkL n (tkI I)).2.1, I.1.getD 0 0 :: (tkL n (tkI I)).2.2) from if_neg c]
      have h1 := (tkL_fl n (tkI I)).1
      have h2 := (tkI_fl I).2 c
      exact ⟨by show (tkL n (tkI I)).2.1.2.2.1 ≤ _; omega, fun _ _ => by show (tkL n (tkI I)).2.1.2.2.1 < _; omega⟩
theorem rdN_fl : ∀ (d : Nat) (I : Ip), (rdN d I).2.1.2.2.1 ≤ I.2.2.1
  | 0, I => Nat.le_refl _
  | d + 1, I => by
    rw [rdN]
    split
    · split
      · exact Nat.le_refl _
      · exact Nat.le_trans (rdN_fl d (tkI I)) (tkI_fl I).1
    · exact Nat.le_refl _
theorem rdRm_fl : ∀ (d : Nat) (I : Ip), (rdR d I).2.1.2.2.1 ≤ I.2.2.1
  | 0, I => Nat.le_refl _
  | d + 1, I => by
    rw [rdR]
    split
    · exact Nat.le_refl _
    · split
      · exact Nat.le_refl _
      · split
        · exact (tkI_fl I).1
        · exact Nat.le_trans (rdRm_fl d (tkI I)) (tkI_fl I).1
theorem rdQ_fl (op cl : List Int32) : ∀ (d n : Nat) (I : Ip), (rdQ op cl d n I).2.1.2.2.1 ≤ I.2.2.1
  | 0, _, I => Nat.le_refl _
  | d + 1, n, I => by
    rw [rdQ]
    split
    · exact Nat.le_refl _
    · split
      · exact (tkL_fl _ I).1
      · split
        · exact Nat.le_trans (rdQ_fl op cl d _ _) (tkL_fl _ I).1
        · exact (tkL_fl _ I).1
theorem drL_fl : ∀ (d : Nat) (I : Ip), (drL d I).2.2.2.1 ≤ I.2.2.1
  | 0, I => Nat.le_refl _
  | d + 1, I => by
    rw [drL]
    split
    · exact Nat.le_refl _
    · split
      · exact Nat.le_refl _
      · split
        · exact (tkI_fl I).1
        · exact Nat.le_trans (drL_fl d (tkI I)) (tkI_fl I).1
theorem let_nam {b : Int32} (h : isLet b = true) : isNam b = true := by
  simp only [isNam]
  simp [h]
theorem rdT_fl {op cl : List Int32} {I : Ip} (ho : 0 < op.length) : (rdT op cl I).2.2.1.2.2.1 ≤ I.2.2.1 ∧ (¬ (rdT op cl I).1 = 0 → (rdT op cl I).2.1 = 0 → (rdT op cl I).2.2.1.2.2.1 < I.2.2.1) := by
  rw [rdT]
  by_cases c0 : I.1 = []
  · rw [if_pos c0]; exact ⟨Nat.le_refl _, fun h => absurd rfl h⟩
  rw [if_neg c0]
  by_cases c1 : bgn I.1 op = true
  · rw [if_pos c1, rdQ0]
    have h1 := tkL_fl op.length I
    by_cases c : (tkL op.length I).1 = true
    · rw [if_pos c]
      have h2 := rdQ_fl op cl 32768 1 (tkL op.length I).2.1
      have h3 := h1.2 ho c
      exact ⟨by show (rdQ op cl 32768 1 (tkL op.length I).2.1).2.1.2.2.1 ≤ _; omega, fun _ _ => by show (rdQ op cl 32768 1 (tkL op.length I).2.1).2.1.2.2.1 < _; omega⟩
    · rw [if_neg c]
      exact ⟨h1.1, fun _ h => absurd h (show ¬ (31 : Int32) = 0 by decide)⟩
  rw [if_neg c1]
  by_cases c2 : atL I.1 (nI 0) = 35
  · rw [if_pos c2]
    refine ⟨rdRm_fl 32768 I, fun _ he => ?_⟩
    have he2 : (rdR (32767 + 1) I).1 = 0 := he
    show (rdR (32767 + 1) I).2.1.2.2.1 < _
    rw [rdR, if_neg c0] at he2 ⊢
    by_cases ct : tkV I < 0
    · rw [if_pos ct] at he2; exact absurd he2 (show ¬ (31 : Int32) = 0 by decide)
    · rw [if_neg ct]
      have h2 := (tkI_fl I).2 ct
      split
      · exact h2
      · exact Nat.lt_of_le_of_lt (rdRm_fl 32767 (tkI I)) h2
  rw [if_neg c2]
  by_cases c3 : isLet (atL I.1 (nI 0)) = true
  · rw [if_pos c3]
    refine ⟨rdN_fl 32768 I, fun _ he => ?_⟩
    have he2 : (rdN (32767 + 1) I).1 = 0 := he
    show (rdN (32767 + 1) I).2.1.2.2.1 < _
    rw [rdN, if_pos (let_nam c3)] at he2 ⊢
    by_cases ct : tkV I < 0
    · rw [if_pos ct] at he2; exact absurd he2 (show ¬ (31 : Int32) = 0 by decide)
    · rw [if_neg ct]
      exact Nat.lt_of_le_of_lt (rdN_fl 32767 (tkI I)) ((tkI_fl I).2 ct)
  rw [if_neg c3]
  refine ⟨(tkI_fl I).1, fun _ he => (tkI_fl I).2 (fun ct => ?_)⟩
  have he2 : (if tkV I < 0 then (31 : Int32) else 0) = 0 := he
  rw [if_pos ct] at he2
  exact absurd he2 (by decide)
/-- the opening sign is not empty and does not begin with a bracket -/
def QN (S : Mst) : Prop := 0 < S.2.1.1.length ∧ ¬ S.2.1.1.getD 0 0 &&& 255 = 40
theorem hld_q {tk : List Int32} {f : Fr} {r : List Fr} {S : Mst} : (hld tk f r S).2.2.1 = S.2.1 ∧ (hld tk f r S).2.1 = S.1 := by
  rw [hld]; split <;> exact ⟨rfl, rfl⟩
theorem usT_q {kd : Int32} {tk : List Int32} {S : Mst} : (usT kd tk S).2.2.1 = S.2.1 ∧ (usT kd tk S).2.1.2.2.1 ≤ S.1.2.2.1 := by
  rw [usT]
  split
  · rw [opC]
    split
    · exact ⟨rfl, Nat.le_refl _⟩
    · split
      · exact ⟨rfl, Nat.le_refl _⟩
      · split
        · exact ⟨rfl, Nat.le_refl _⟩
        · split
          · exact ⟨rfl, (tkI_fl S.1).1⟩
          · split
            · exact ⟨rfl, (tkI_fl S.1).1⟩
            · exact ⟨rfl, (tkI_fl S.1).1⟩
  · split
    · exact ⟨rfl, Nat.le_refl _⟩
    · have hh : ∀ (f : Fr) (r : List Fr), (hld tk f r S).2.2.1 = S.2.1 ∧ (hld tk f r S).2.1.2.2.1 ≤ S.1.2.2.1 := fun f r => ⟨hld_q.1, by rw [hld_q.2]; exact Nat.le_refl _⟩
      rw [uiA]
      split
      · split
        · exact ⟨rfl, Nat.le_refl _⟩
        · split
          · split
            · exact ⟨rfl, Nat.le_refl _⟩
            · exact ⟨rfl, Nat.le_refl _⟩
          · split
            · exact hh _ _
            · split
              · split
                · exact ⟨rfl, Nat.le_refl _⟩
                · exact hh _ _
              · exact hh _ _
      · exact hh _ _
theorem qt_b0 {a : List Int32} (h : isQt a = true) : 0 < a.length ∧ ¬ a.getD 0 0 &&& 255 = 40 := by
  have h1 := of_decide_eq_true h
  refine ⟨h1.1, fun z => ?_⟩
  have h2 := h1.2.2 0 h1.1
  rw [z] at h2
  exact absurd h2 (by decide)
theorem bI_q {j : Nat} {S : Mst} {f : Fr} (hj : j < 17) (h : QN S) : QN (bI j S f).2.1 ∧ (bI j S f).2.1.1.2.2.1 ≤ S.1.2.2.1 := by
  have hc : j = 0 ∨ j = 1 ∨ j = 2 ∨ j = 3 ∨ j = 4 ∨ j = 5 ∨ j = 6 ∨ j = 7 ∨ j = 8 ∨ j = 9 ∨ j = 10 ∨ j = 11 ∨ j = 12 ∨ j = 13 ∨ j = 14 ∨ j = 15 ∨ j = 16 := by omega
  rcases hc with rfl | rfl | rfl | rfl | rfl | rfl | rfl | rfl | rfl | rfl | rfl | rfl | rfl | rfl | rfl | rfl | rfl
  all_goals first | exact ⟨h, Nat.le_refl _⟩ | exact ⟨h, drL_fl 32768 S.1⟩ | skip
  refine ⟨?_, Nat.le_refl _⟩
  show 0 < ((cqX f.2.1).getD S.2.1).1.length ∧ ¬ ((cqX f.2.1).getD S.2.1).1.getD 0 0 &&& 255 = 40
  rw [cqX]
  split
  · exact (show 0 < ([96] : List Int32).length ∧ ¬ ([96] : List Int32).getD 0 0 &&& 255 = 40 from ⟨by decide, by decide⟩)
  · split
    · rename_i hq
      exact qt_b0 hq.1
    · exact h
theorem fnE_q {r : List Fr} {e : Int32} {S : Mst} {F : List Int32} (h : QN S) : QN (fnE r e S F).2 ∧ (fnE r e S F).2.1.2.2.1 ≤ S.1.2.2.1 := by
  rw [fnE]
  split
  · split
    · exact ⟨h, Nat.le_refl _⟩
    · exact ⟨h, Nat.le_refl _⟩
  · exact ⟨h, Nat.le_refl _⟩
theorem fnX_q {S : Mst} (hok : OKP S.2.2.2.1.1) (h : QN S) : QN (fnX S).2 ∧ (fnX S).2.1.2.2.1 ≤ S.1.2.2.1 := by
  rw [fnX]
  split
  · split
    · exact ⟨h, Nat.le_refl _⟩
    · rename_i f r hf
      rw [fnC]
      split
      · exact fnE_q h
      · exact fnE_q h
      · rename_i c t hc
        obtain ⟨j, hj, e⟩ := hok f.1 (some c, t) (List.mem_of_mem_head? (by rw [hc]; rfl)) c rfl
        have hb := bI_q (S := S) (f := f) (j := c - 1048576) (by omega) h
        have he := fnE_q (r := r) (e := (bI (c - 1048576) S f).1) (F := (bI (c - 1048576) S f).2.2) hb.1
        exact ⟨he.1, Nat.le_trans he.2 hb.2⟩
  · exact ⟨h, Nat.le_refl _⟩
/-- what stays true -/
def RX (S : Mst) : Prop := RI S ∧ QN S
theorem rnL_fu : ∀ (n m : Nat) (kd : Int32) (tk : List Int32) (S : Mst) (tl : Int32), RX S → (kd = 4 → tk.length = 1) → (kd = 0 ∨ S.1.2.2.1 < n) → (kd = 0 ∨ S.1.2.2.1 < m) → rnL n kd tk S tl = rnL m kd tk S tl := by
  intro n
  induction n with
  | zero =>
    intro m kd tk S tl hx hk h1 h2
    have h0 : kd = 0 := h1.resolve_right (Nat.not_lt_zero _)
    cases m with
    | zero => rfl
    | succ m => rw [rnL, rnL, if_pos h0]
  | succ n ih =>
    intro m kd tk S tl hx hk h1 h2
    cases m with
    | zero =>
      have h0 : kd = 0 := h2.resolve_right (Nat.not_lt_zero _)
      rw [rnL, rnL, if_pos h0]
    | succ m =>
      rw [rnL, rnL]
      by_cases c0 : kd = 0
      · rw [if_pos c0, if_pos c0]
      rw [if_neg c0, if_neg c0]
      by_cases c1 : ¬ (usT kd tk S).1 = 0
      · rw [if_pos c1, if_pos c1]
      rw [if_neg c1, if_neg c1]
      have u1 := usT_q (kd := kd) (tk := tk) (S := S)
      have j1 := usT_RJ hx.1 hk (Decidable.not_not.mp c1)
      have q1 : QN (usT kd tk S).2 := by rw [QN, u1.1]; exact hx.2
      by_cases c2 : ¬ (fnX (usT kd tk S).2).1 = 0
      · rw [if_pos c2, if_pos c2]
      rw [if_neg c2, if_neg c2]
      have q2 := fnX_q j1.1 q1
      have j2 := fnX_RI j1
      by_cases c3 : ¬ (rdT (fnX (usT kd tk S).2).2.2.1.1 (fnX (usT kd tk S).2).2.2.1.2 (fnX (usT kd tk S).2).2.1).2.1 = 0
      · rw [if_pos c3, if_pos c3]
      rw [if_neg c3, if_neg c3]
      have f1 := rdT_fl (op := (fnX (usT kd tk S).2).2.2.1.1) (cl := (fnX (usT kd tk S).2).2.2.1.2) (I := (fnX (usT kd tk S).2).2.1) q2.1.1
      have hfl : ¬ (rdT (fnX (usT kd tk S).2).2.2.1.1 (fnX (usT kd tk S).2).2.2.1.2 (fnX (usT kd tk S).2).2.1).1 = 0 → (rdT (fnX (usT kd tk S).2).2.2.1.1 (fnX (usT kd tk S).2).2.2.1.2 (fnX (usT kd tk S).2).2.1).2.2.1.2.2.1 < S.1.2.2.1 := fun z => by
        have a1 := f1.2 z (Decidable.not_not.mp c3)
        have a2 := q2.2
        have a3 := u1.2
        omega
      have k1 := h1.resolve_left c0
      have k2 := h2.resolve_left c0
      refine ih m _ _ _ _ ⟨⟨j2.1, j2.2.1, j2.2.2⟩, q2.1⟩ (fun z => rdT_4 z (Decidable.not_not.mp c3)) ?_ ?_
      · by_cases z : (rdT (fnX (usT kd tk S).2).2.2.1.1 (fnX (usT kd tk S).2).2.2.1.2 (fnX (usT kd tk S).2).2.1).1 = 0
        · exact Or.inl z
        · exact Or.inr (by have := hfl z; show (rdT (fnX (usT kd tk S).2).2.2.1.1 (fnX (usT kd tk S).2).2.2.1.2 (fnX (usT kd tk S).2).2.1).2.2.1.2.2.1 < n; omega)
      · by_cases z : (rdT (fnX (usT kd tk S).2).2.2.1.1 (fnX (usT kd tk S).2).2.2.1.2 (fnX (usT kd tk S).2).2.1).1 = 0
        · exact Or.inl z
        · exact Or.inr (by have := hfl z; show (rdT (fnX (usT kd tk S).2).2.2.1.1 (fnX (usT kd tk S).2).2.2.1.2 (fnX (usT kd tk S).2).2.1).2.2.1.2.2.1 < m; omega)
def rn0 (kd : Int32) (tk : List Int32) (S : Mst) (tl : Int32) : Int32 × Mst × Int32 := rnL (S.1.2.2.1 + 1) kd tk S tl
/-- a token is read -/
def rnD (S : Mst) : Int32 × Mst × Int32 := if ¬ (rdT S.2.1.1 S.2.1.2 S.1).2.1 = 0 then ((rdT S.2.1.1 S.2.1.2 S.1).2.1, sI S (rdT S.2.1.1 S.2.1.2 S.1).2.2.1, nI (S.1.2.2.2 + 1)) else rn0 (rdT S.2.1.1 S.2.1.2 S.1).1 (rdT S.2.1.1 S.2.1.2 S.1).2.2.2 (sI S (rdT S.2.1.1 S.2.1.2 S.1).2.2.1) (nI (S.1.2.2.2 + 1))
/-- a call is finished, if it is complete -/
def rnF (S : Mst) (tl : Int32) : Int32 × Mst × Int32 := if ¬ (fnX S).1 = 0 then ((fnX S).1, (fnX S).2, tl) else rnD (fnX S).2
theorem rn0_0 {tk : List Int32} {S : Mst} {tl : Int32} : rn0 0 tk S tl = (0, S, tl) := by rw [rn0, rnL, if_pos rfl]
theorem rn0_s {kd : Int32} {tk : List Int32} {S : Mst} {tl : Int32} (hx : RX S) (hk : kd = 4 → tk.length = 1) (h0 : ¬ kd = 0) : rn0 kd tk S tl = if ¬ (usT kd tk S).1 = 0 then ((usT kd tk S).1, (usT kd tk S).2, tl) else rnF (usT kd tk S).2 tl := by
  rw [rn0, rnL, if_neg h0]
  by_cases c1 : ¬ (usT kd tk S).1 = 0
  · rw [if_pos c1, if_pos c1]
  rw [if_neg c1, if_neg c1, rnF]
  have u1 := usT_q (kd := kd) (tk := tk) (S := S)
  have j1 := usT_RJ hx.1 hk (Decidable.not_not.mp c1)
  have q1 : QN (usT kd tk S).2 := by rw [QN, u1.1]; exact hx.2
  by_cases c2 : ¬ (fnX (usT kd tk S).2).1 = 0
  · rw [if_pos c2, if_pos c2]
  rw [if_neg c2, if_neg c2, rnD]
  have q2 := fnX_q j1.1 q1
  have j2 := fnX_RI j1
  by_cases c3 : ¬ (rdT (fnX (usT kd tk S).2).2.2.1.1 (fnX (usT kd tk S).2).2.2.1.2 (fnX (usT kd tk S).2).2.1).2.1 = 0
  · rw [if_pos c3, if_pos c3]
  rw [if_neg c3, if_neg c3, rn0]
  have f1 := rdT_fl (op := (fnX (usT kd tk S).2).2.2.1.1) (cl := (fnX (usT kd tk S).2).2.2.1.2) (I := (fnX (usT kd tk S).2).2.1) q2.1.1
  refine rnL_fu _ _ _ _ _ _ ⟨⟨j2.1, j2.2.1, j2.2.2⟩, q2.1⟩ (fun z => rdT_4 z (Decidable.not_not.mp c3)) ?_ (Or.inr (Nat.lt_succ_self _))
  by_cases z : (rdT (fnX (usT kd tk S).2).2.2.1.1 (fnX (usT kd tk S).2).2.2.1.2 (fnX (usT kd tk S).2).2.1).1 = 0
  · exact Or.inl z
  · refine Or.inr ?_
    have a1 := f1.2 z (Decidable.not_not.mp c3)
    have a2 := q2.2
    have a3 := u1.2
    show (rdT (fnX (usT kd tk S).2).2.2.1.1 (fnX (usT kd tk S).2).2.2.1.2 (fnX (usT kd tk S).2).2.1).2.2.1.2.2.1 < S.1.2.2.1
    omega
theorem rnF_f {S : Mst} {tl : Int32} (h : S.2.2.1.2 = false) : rnF S tl = rnD S := by
  have e : fnX S = (0, S) := by rw [fnX, if_neg (by rw [h]; decide)]
  rw [rnF, e, if_neg (fun z => z rfl)]
theorem RI_S0 {T : List Int32} {fu : Nat} : RX (S0 T fu) := ⟨⟨rfl, (fun f hf => by cases hf), biP_ok 17 (Nat.le_refl _)⟩, (show 0 < ([96] : List Int32).length ∧ ¬ ([96] : List Int32).getD 0 0 &&& 255 = 40 from ⟨by decide, by decide⟩)⟩
theorem rnX_D {T : List Int32} {fu : Nat} (h1 : 1 ≤ fu) (h2 : fu ≤ 400000) : rnX T fu = rnD (S0 T fu) := by
  rw [rnX, rnD]
  show (if ¬ (rdT [96] [39] (T, T.length, fu, 0)).2.1 = 0 then _ else _) = (if ¬ (rdT [96] [39] (T, T.length, fu, 0)).2.1 = 0 then _ else _)
  by_cases c3 : ¬ (rdT [96] [39] (T, T.length, fu, 0)).2.1 = 0
  · rw [if_pos c3, if_pos c3]; rfl
  rw [if_neg c3, if_neg c3, rn0]
  have f1 := rdT_fl (op := [96]) (cl := [39]) (I := (T, T.length, fu, 0)) (by decide)
  refine rnL_fu _ _ _ _ _ _ ⟨⟨rfl, (fun f hf => by cases hf), biP_ok 17 (Nat.le_refl _)⟩, (show 0 < ([96] : List Int32).length ∧ ¬ ([96] : List Int32).getD 0 0 &&& 255 = 40 from ⟨by decide, by decide⟩)⟩ (fun z => rdT_4 z (Decidable.not_not.mp c3)) ?_ (Or.inr (Nat.lt_succ_self _))
  by_cases z : (rdT [96] [39] (T, T.length, fu, 0)).1 = 0
  · exact Or.inl z
  · refine Or.inr ?_
    have a1 := f1.2 z (Decidable.not_not.mp c3)
    show (rdT [96] [39] (T, T.length, fu, 0)).2.2.1.2.2.1 < 400000
    have a2 : ((T, T.length, fu, 0) : Ip).2.2.1 = fu := rfl
    omega
/-- what handling a token is for the one machine, when its level is known -/
def hU (kd : Int32) (tk : List Int32) (S : Mst) : Int32 × Mst := if kd = 3 ∧ isCl S tk = true then opC tk S else match S.2.2.1.1 with
  | [] => dvA tk S
  | f :: r => hld tk f r S
def hR (kd : Int32) (tk : List Int32) (S : Mst) (tl : Int32) : Int32 × Mst × Int32 := if ¬ (hU kd tk S).1 = 0 then ((hU kd tk S).1, (hU kd tk S).2, tl) else rnF (hU kd tk S).2 tl
def rA (X : Int32 × Mst × Int32) : Int32 := if X.1 = 0 ∧ ¬ X.2.1.2.2.1.1 = [] then 33 else X.1
/-- the run ended with an error -/
def XE (w : mu_T) (fu : Nat) (X : Int32 × Mst × Int32) : Prop := ¬ rA X = 0 ∧ gI w 1003 2 = rA X ∧ gI w 1003 3 = (if rA X = 32 then X.2.2 else nI (X.2.1.1.2.2.2 + 1)) ∧ gI w 1003 4 = nI (fu - X.2.1.1.2.2.1) ∧ gI w 1003 28 = nI X.2.1.2.2.2.1.2.1 ∧ gI w 1003 29 = nI X.2.1.2.2.2.1.2.2 ∧ ∃ k, k ≤ 8192 ∧ gI w 1003 37 = nI k
theorem XE_of {w : mu_T} {fu : Nat} {e : Int32} {S : Mst} {tl : Int32} (h : ER w fu e S) (h0 : ¬ e = 0) (h32 : ¬ e = 32) (hk : ∃ k, k ≤ 8192 ∧ gI w 1003 37 = nI k) : XE w fu (e, S, tl) := by
  have hr : rA (e, S, tl) = e := if_neg (fun z => h0 z.1)
  rw [XE, hr]
  exact ⟨h0, h.1, by rw [if_neg h32]; exact h.2.1, h.2.2.1, h.2.2.2.1, h.2.2.2.2, hk⟩
theorem rdT_40 {op cl : List Int32} {I : Ip} (h : atL I.1 (nI 0) = 40) (ho : 0 < op.length) (ho2 : ¬ op.getD 0 0 &&& 255 = 40) : rdT op cl I = (4, if tkV I < 0 then 31 else 0, tkI I, if tkV I < 0 then [] else [I.1.getD 0 0]) := by
  rw [rdT, if_neg (fun z => by rw [z] at h; exact absurd h (by decide)), if_neg (fun z => ho2 (by rw [← (of_decide_eq_true z) 0 ho]; exact h)), if_neg (by rw [h]; decide), if_neg (by rw [h]; decide)]
