/-! Meanings: a name gets a meaning: what it means -/
/-- define (or pushdef, onTop): none where there is no room -/
def dfn (onTop : Bool) (nm t : List Int32) (P : Mng) (df db : Nat) : Option (Mng × Nat × Nat) :=
  match (if onTop = true then none else (P nm).head?) with
  | some (none, old) => if db + t.length ≤ 16384 + old.length then some (pu P nm ((none, t) :: (P nm).tail), df, db + t.length - old.length) else none
  | some (some _, _) => if df < 300 ∧ db + nm.length + t.length ≤ 16384 then some (pu P nm ((none, t) :: (P nm).tail), df + 1, db + nm.length + t.length) else none
  | none => if df < 300 ∧ db + nm.length + t.length ≤ 16384 then some (pu P nm ((none, t) :: P nm), df + 1, db + nm.length + t.length) else none
theorem le_sub4 {a b c d : Nat} (ha : a < 2 ^ 30) (hb : b < 2 ^ 30) (hc : c < 2 ^ 30) (hd : d < 2 ^ 30) : nI a - nI b ≤ nI c - nI d ↔ a + d ≤ c + b := by
  rw [Int32.le_iff_toInt_le, pk_sub_toInt ha hb, pk_sub_toInt hc hd]
  omega
theorem le_sub3 {a c d : Nat} (ha : a < 2 ^ 30) (hc : c < 2 ^ 30) (hd : d < 2 ^ 30) : nI a ≤ nI c - nI d ↔ a + d ≤ c := by
  have := le_sub4 (a := a) (b := 0) (c := c) (d := d) ha (by decide) hc hd
  rw [show nI a - nI 0 = nI a from by rw [pk_sub (by omega)]; rfl] at this
  exact this
theorem lt_sub3 {a c d : Nat} (ha : a < 2 ^ 30) (hc : c < 2 ^ 30) (hd : d < 2 ^ 30) : nI c - nI d < nI a ↔ c < a + d := by
  rw [Int32.lt_iff_toInt_lt, pk_sub_toInt hc hd, nI_toInt (by omega)]
  omega
theorem fnd_split {N : Nat → List Int32} {nm : List Int32} : ∀ {L : List Nat} {i : Nat}, L.find? (fun i => decide (N i = nm)) = some i → ∃ ks is, L = ks ++ i :: is ∧ N i = nm ∧ ∀ j ∈ ks, N j ≠ nm
  | [], _, h => by cases h
  | j :: L, i, h => by
    rw [List.find?_cons] at h
    by_cases e : N j = nm
    · rw [decide_eq_true e] at h
      cases h
      exact ⟨[], L, rfl, e, fun j hj => absurd hj List.not_mem_nil⟩
    · rw [decide_eq_false e] at h
      obtain ⟨ks, is, h1, h2, h3⟩ := fnd_split h
      exact ⟨j :: ks, is, by rw [h1]; rfl, h2, fun x hx => by rcases List.mem_cons.mp hx with hx | hx; rw [hx]; exact e; exact h3 x hx⟩
theorem fnd_none {N : Nat → List Int32} {nm : List Int32} : ∀ {L : List Nat}, L.find? (fun i => decide (N i = nm)) = none → ∀ j ∈ L, N j ≠ nm
  | [], _, _, hj => absurd hj List.not_mem_nil
  | j :: L, h, x, hx => by
    rw [List.find?_cons] at h
    by_cases e : N j = nm
    · rw [decide_eq_true e] at h; cases h
    · rw [decide_eq_false e] at h
      rcases List.mem_cons.mp hx with hx | hx
      · rw [hx]; exact e
      · exact fnd_none h x hx
/-- what the newest meaning is -/
theorem BF_fnd {bk : Nat → List Nat} {N T : Nat → List Int32} {B : Nat → Option Nat} {k i : Nat} {nm : List Int32} {ks is : List Nat} (hbk : bk k = ks ++ i :: is) (hn : N i = nm) (hks : ∀ j ∈ ks, N j ≠ nm) : BF bk N T B k nm = (B i, T i) :: (is.filter (fun i => decide (N i = nm))).map (fun i => (B i, T i)) := by
  rw [BF_app hbk, flt_nil hks, List.map_nil, List.nil_append, List.filter_cons, if_pos (by rw [decide_eq_true_eq]; exact hn), List.map_cons]
theorem BF_none {bk : Nat → List Nat} {N T : Nat → List Int32} {B : Nat → Option Nat} {k : Nat} {nm : List Int32} (h : ∀ j ∈ bk k, N j ≠ nm) : BF bk N T B k nm = [] := by
  rw [BF, flt_nil h]; rfl
/-- the newest meaning gets another text -/
theorem df_set {g w : mu_T} {bk : Nat → List Nat} {sp : List Nat} {N T : Nat → List Int32} {B : Nat → Option Nat} {df db nb bb i k df' db' : Nat} {ks is : List Nat} {nm t : List Int32} {P : Mng} (hM : MS g bk sp N T B df db) (hC : MC sp N T B df db nb bb) (hnb : nb ≤ 17) (hbb : bb ≤ 128) (hP : ∀ nm k, k < 128 → hsh nm &&& 127 = nI k → P nm = BF bk N T B k nm) (hk : k < 128) (hk2 : hsh nm &&& 127 = nI k) (hbk : bk k = ks ++ i :: is) (hn : N i = nm) (hks : ∀ j ∈ ks, N j ≠ nm) (hw : MS w bk sp N (va_up T i t) (va_up B i none) df' db') (h3 : df' ≤ 300) (h4 : db' ≤ 16384)
    (hd : (B i = none → df' = df ∧ db' = db + t.length - (T i).length) ∧ (B i ≠ none → df' = df + 1 ∧ db' = db + nm.length + t.length)) : MP w (pu P nm ((none, t) :: (P nm).tail)) df' db' := by
  have hin : i ∈ bk k := by rw [hbk]; simp
  obtain ⟨hi, -, -⟩ := hM.2.2.2.2.2.1 k hk i hin
  have hs := (hM.2.2.2.2.2.2.2.2.1 k hk).2 i hin
  have hnd := (hM.2.2.2.2.2.2.2.2.1 k hk).1
  rw [hbk] at hnd
  have hnd2 := List.nodup_append.mp hnd
  have hnd3 := List.nodup_cons.mp hnd2.2.1
  have c1 : cl sp (va_up B i none) i = 1 := by rw [cl, if_neg hs, up_eq, if_pos rfl]
  have cj : ∀ j, j ≠ i → cl sp (va_up B i none) j = cl sp B j := fun j hj => by rw [cl, cl, up_ne hj]
  have hMC : ∃ nb2 bb2, nb2 ≤ 17 ∧ bb2 ≤ 128 ∧ MC sp N (va_up T i t) (va_up B i none) df' db' nb2 bb2 := by
    by_cases hB : B i = none
    · obtain ⟨rfl, rfl⟩ := hd.1 hB
      have c0 : cl sp B i = 1 := by rw [cl, if_neg hs, if_pos hB]
      have hge := MC_ge hC hi hs hB
      refine ⟨nb, bb, hnb, hbb, MC_up hC hi cj (fun j hj => rfl) (fun j hj => up_ne hj) ?_ ?_ ?_ ?_⟩
      · rw [c0, c1]
      · rw [c0, c1]
      · rw [c0, c1, up_eq, if_pos rfl, if_pos rfl]; omega
      · rw [c0, c1]; simp
    · obtain ⟨rfl, rfl⟩ := hd.2 hB
      have c0 : cl sp B i = 2 := by rw [cl, if_neg hs, if_neg hB]
      have hge := MC_ge2 hC hi hs hB
      refine ⟨nb - 1, bb - ((N i).length + (T i).length), by omega, by omega, MC_up hC hi cj (fun j hj => rfl) (fun j hj => up_ne hj) ?_ ?_ ?_ ?_⟩
      · rw [c0, c1]; simp
      · rw [c0, c1]; simp; omega
      · rw [c0, c1, up_eq, hn]; simp; omega
      · rw [c0, c1]; simp; omega
  obtain ⟨nb2, bb2, q1, q2, hC2⟩ := hMC
  refine ⟨bk, sp, N, va_up T i t, va_up B i none, nb2, bb2, hw, hC2, q1, q2, h3, h4, fun nm' k' hk' hh => ?_⟩
  have hsame : ∀ j, j ≠ i → (N j = N j ∧ va_up T i t j = T j ∧ va_up B i none j = B j) := fun j hj => ⟨rfl, up_ne hj, up_ne hj⟩
  rw [pu]
  by_cases x : nm' = nm
  · subst x
    rw [if_pos rfl, hP nm' k hk hk2]
    rw [hk2] at hh
    rw [← (nI_eq (by omega) (by omega)).mp hh, BF_fnd hbk hn hks, BF_fnd hbk hn hks, up_eq, up_eq, List.tail_cons]
    rw [flt_same (N := N) (T := T) (B := B) (ks := is) (fun j hj => hsame j (fun e => hnd3.1 (e ▸ hj)))]
  · rw [if_neg x, hP nm' k' hk' hh]
    by_cases e : k' = k
    · subst e
      rw [BF_app hbk, BF_app hbk, List.filter_cons, if_neg (by rw [decide_eq_true_eq, hn]; exact fun x2 => x x2.symm)]
      rw [flt_same (N := N) (T := T) (B := B) (T' := va_up T i t) (B' := va_up B i none) (ks := is) (fun j hj => hsame j (fun e => hnd3.1 (e ▸ hj)))]
      rw [flt_same (N := N) (T := T) (B := B) (T' := va_up T i t) (B' := va_up B i none) (ks := ks) (fun j hj => hsame j (fun e => hnd2.2.2 j hj i (by simp) e))]
    · exact (BF_same rfl (fun j hj => hsame j (fun x => e (MS_one hM hk' hk (x ▸ hj) hin)))).symm
/-- a spare meaning becomes the newest of a name -/
theorem df_new {g w : mu_T} {bk : Nat → List Nat} {sp : List Nat} {N T : Nat → List Int32} {B : Nat → Option Nat} {df db nb bb i k : Nat} {nm t : List Int32} {P : Mng} (hM : MS g bk (i :: sp) N T B df db) (hC : MC (i :: sp) N T B df db nb bb) (hnb : nb ≤ 17) (hbb : bb ≤ 128) (hP : ∀ nm k, k < 128 → hsh nm &&& 127 = nI k → P nm = BF bk N T B k nm) (hk : k < 128) (hk2 : hsh nm &&& 127 = nI k) (hw : MS w (va_up bk k (i :: bk k)) sp (va_up N i nm) (va_up T i t) (va_up B i none) (df + 1) (db + nm.length + t.length)) (h3 : df + 1 ≤ 300) (h4 : db + nm.length + t.length ≤ 16384) : MP w (pu P nm ((none, t) :: P nm)) (df + 1) (db + nm.length + t.length) := by
  obtain ⟨hi, hN0, hT0⟩ := hM.2.2.2.2.2.2.2.1 i (List.mem_cons_self ..)
  have hs : i ∉ sp := (List.nodup_cons.mp hM.2.2.2.2.2.2.2.2.2.1).1
  have hno : ∀ j, j < 128 → i ∉ bk j := fun j hj h => (hM.2.2.2.2.2.2.2.2.1 j hj).2 i h (List.mem_cons_self ..)
  have c1 : cl sp (va_up B i none) i = 1 := by rw [cl, if_neg hs, up_eq, if_pos rfl]
  have c0 : cl (i :: sp) B i = 0 := by rw [cl, if_pos (List.mem_cons_self ..)]
  have cj : ∀ j, j ≠ i → cl sp (va_up B i none) j = cl (i :: sp) B j := fun j hj => by
    rw [cl, cl, up_ne hj]
    by_cases h : j ∈ sp
    · rw [if_pos h, if_pos (List.mem_cons_of_mem _ h)]
    · rw [if_neg h, if_neg (show ¬ j ∈ i :: sp from fun x => by rcases List.mem_cons.mp x with x | x; exact hj x; exact h x)]
  have hC2 : MC sp (va_up N i nm) (va_up T i t) (va_up B i none) (df + 1) (db + nm.length + t.length) nb bb := by
    refine MC_up hC hi cj (fun j hj => up_ne hj) (fun j hj => up_ne hj) ?_ ?_ ?_ ?_
    · rw [c0, c1]; simp
    · rw [c0, c1]; simp
    · rw [c0, c1, up_eq, up_eq]; simp; omega
    · rw [c0, c1]; simp
  refine ⟨_, _, _, _, _, nb, bb, hw, hC2, hnb, hbb, h3, h4, fun nm' k' hk' hh => ?_⟩
  have hsame : ∀ j, j ≠ i → (va_up N i nm j = N j ∧ va_up T i t j = T j ∧ va_up B i none j = B j) := fun j hj => ⟨up_ne hj, up_ne hj, up_ne hj⟩
  have hrest : ∀ nm', (((bk k).filter (fun x => decide (va_up N i nm x = nm'))).map (fun x => (va_up B i none x, va_up T i t x))) = BF bk N T B k nm' := fun nm' => flt_same (fun j hj => hsame j (fun e => hno k hk (e ▸ hj)))
  rw [pu]
  by_cases x : nm' = nm
  · subst x
    rw [if_pos rfl, hP nm' k hk hk2]
    rw [hk2] at hh
    rw [← (nI_eq (by omega) (by omega)).mp hh, show BF (va_up bk k (i :: bk k)) (va_up N i nm') (va_up T i t) (va_up B i none) k nm' = ((va_up bk k (i :: bk k) k).filter (fun x => decide (va_up N i nm' x = nm'))).map (fun x => (va_up B i none x, va_up T i t x)) from rfl, up_eq, List.filter_cons, if_pos (by rw [decide_eq_true_eq]; exact up_eq), List.map_cons, hrest, up_eq, up_eq]
  · rw [if_neg x, hP nm' k' hk' hh]
    by_cases e : k' = k
    · subst e
      rw [← hrest nm']
      rw [show BF (va_up bk k' (i :: bk k')) (va_up N i nm) (va_up T i t) (va_up B i none) k' nm' = ((va_up bk k' (i :: bk k') k').filter (fun x => decide (va_up N i nm x = nm'))).map (fun x => (va_up B i none x, va_up T i t x)) from rfl, up_eq, List.filter_cons, if_neg (by rw [decide_eq_true_eq, up_eq]; exact fun x2 => x x2.symm)]
    · exact (BF_same (up_ne e) (fun j hj => hsame j (fun x => hno k' hk' (x ▸ hj)))).symm
