/-! Meanings: one leaves its bucket: what it means -/
theorem flt_nil {N : Nat → List Int32} {nm : List Int32} : ∀ {ks : List Nat}, (∀ j ∈ ks, N j ≠ nm) → ks.filter (fun i => decide (N i = nm)) = []
  | [], _ => rfl
  | j :: ks, h => by
    rw [List.filter_cons, if_neg (by rw [decide_eq_true_eq]; exact h j (List.mem_cons_self ..))]
    exact flt_nil (fun x hx => h x (List.mem_cons_of_mem _ hx))
theorem flt_same {N N' T T' : Nat → List Int32} {B B' : Nat → Option Nat} {nm : List Int32} : ∀ {ks : List Nat}, (∀ j ∈ ks, N' j = N j ∧ T' j = T j ∧ B' j = B j) → (ks.filter (fun i => decide (N' i = nm))).map (fun i => (B' i, T' i)) = (ks.filter (fun i => decide (N i = nm))).map (fun i => (B i, T i))
  | [], _ => rfl
  | j :: ks, h => by
    obtain ⟨h1, h2, h3⟩ := h j (List.mem_cons_self ..)
    have ih := flt_same (nm := nm) (fun x hx => h x (List.mem_cons_of_mem _ hx))
    rw [List.filter_cons, List.filter_cons, h1]
    split
    · rw [List.map_cons, List.map_cons, h2, h3, ih]
    · exact ih
theorem BF_app {bk : Nat → List Nat} {N T : Nat → List Int32} {B : Nat → Option Nat} {k : Nat} {nm : List Int32} {ks is : List Nat} (e : bk k = ks ++ is) : BF bk N T B k nm = (ks.filter (fun i => decide (N i = nm))).map (fun i => (B i, T i)) ++ (is.filter (fun i => decide (N i = nm))).map (fun i => (B i, T i)) := by
  rw [BF, e, List.filter_append, List.map_append]
theorem tk_step {g : mu_T} {bk : Nat → List Nat} {sp : List Nat} {N T : Nat → List Int32} {B : Nat → Option Nat} {df db nb bb i k : Nat} {ks is : List Nat} {nm : List Int32} (hM : MS g bk sp N T B df db) (hC : MC sp N T B df db nb bb) (hk : k < 128) (hbk : bk k = ks ++ i :: is) (hn : N i = nm) (hks : ∀ j ∈ ks, N j ≠ nm) :
    i < 317 ∧ i ∉ sp ∧ (∀ j, j < 128 → i ∉ va_up bk k (ks ++ is) j) ∧ (B i = none → 1 ≤ df ∧ (N i).length + (T i).length ≤ db) ∧
    (∃ nb2 bb2, nb2 ≤ nb ∧ bb2 ≤ bb ∧ MC (i :: sp) (va_up N i []) (va_up T i []) (va_up B i none) (if B i = none then df - 1 else df) (if B i = none then db - ((N i).length + (T i).length) else db) nb2 bb2) ∧
    ((if B i = none then df - 1 else df), (if B i = none then db - ((N i).length + (T i).length) else db)) = un1 nm (B i, T i) (df, db) ∧
    BF bk N T B k nm = (B i, T i) :: BF (va_up bk k (ks ++ is)) (va_up N i []) (va_up T i []) (va_up B i none) k nm ∧
    ∀ nm' k', k' < 128 → nm' ≠ nm → BF (va_up bk k (ks ++ is)) (va_up N i []) (va_up T i []) (va_up B i none) k' nm' = BF bk N T B k' nm' := by
  have hin : i ∈ bk k := by rw [hbk]; simp
  obtain ⟨hi, -, -⟩ := hM.2.2.2.2.2.1 k hk i hin
  have hs := (hM.2.2.2.2.2.2.2.2.1 k hk).2 i hin
  have hnd := (hM.2.2.2.2.2.2.2.2.1 k hk).1
  rw [hbk] at hnd
  have hnd2 := List.nodup_append.mp hnd
  have hnd3 := List.nodup_cons.mp hnd2.2.1
  have hno : i ∉ ks ++ is := fun h => by
    rcases List.mem_append.mp h with h | h
    · exact hnd2.2.2 i h i (by simp) rfl
    · exact hnd3.1 h
  have hsame : ∀ j, j ≠ i → (va_up N i [] j = N j ∧ va_up T i [] j = T j ∧ va_up B i none j = B j) := fun j hj => ⟨up_ne hj, up_ne hj, up_ne hj⟩
  refine ⟨hi, hs, fun j hj h => ?_, fun hB => MC_ge hC hi hs hB, ?_, ?_, ?_, fun nm' k' hk' hne => ?_⟩
  · by_cases e : j = k
    · subst e; rw [up_eq] at h; exact hno h
    · rw [up_ne e] at h; exact e (MS_one hM hj hk h hin)
  · have c0 : cl (i :: sp) (va_up B i none) i = 0 := by rw [cl, if_pos (List.mem_cons_self ..)]
    have cj : ∀ j, j ≠ i → cl (i :: sp) (va_up B i none) j = cl sp B j := fun j hj => by
      rw [cl, cl, up_ne hj]
      by_cases h : j ∈ sp
      · rw [if_pos h, if_pos (List.mem_cons_of_mem _ h)]
      · rw [if_neg h, if_neg (fun x => by rcases List.mem_cons.mp x with x | x; exact hj x; exact h x)]
    by_cases hB : B i = none
    · have c1 : cl sp B i = 1 := by rw [cl, if_neg hs, if_pos hB]
      have hge := MC_ge hC hi hs hB
      refine ⟨nb, bb, Nat.le_refl _, Nat.le_refl _, MC_up hC hi cj (fun j hj => up_ne hj) (fun j hj => up_ne hj) ?_ ?_ ?_ ?_⟩
      · rw [if_pos hB, c1, c0]; simp; omega
      · rw [c1, c0]; simp
      · rw [if_pos hB, c1, c0]; simp; omega
      · rw [c1, c0]; simp
    · have c1 : cl sp B i = 2 := by rw [cl, if_neg hs, if_neg hB]
      have hge := MC_ge2 hC hi hs hB
      refine ⟨nb - 1, bb - ((N i).length + (T i).length), Nat.sub_le _ _, Nat.sub_le _ _, MC_up hC hi cj (fun j hj => up_ne hj) (fun j hj => up_ne hj) ?_ ?_ ?_ ?_⟩
      · rw [if_neg hB, c1, c0]; simp
      · rw [c1, c0]; simp; omega
      · rw [if_neg hB, c1, c0]; simp
      · rw [c1, c0]; simp; omega
  · rw [un1, ← hn]
    by_cases hB : B i = none
    · rw [if_pos hB, if_pos hB, if_pos hB]
    · rw [if_neg hB, if_neg hB, if_neg hB]
  · rw [BF_app hbk, BF_app (bk := va_up bk k (ks ++ is)) (up_eq), flt_nil hks, List.map_nil, List.nil_append]
    rw [flt_same (N := N) (T := T) (B := B) (ks := ks) (fun j hj => hsame j (fun e => hno (by rw [← e]; simp [hj]))), flt_nil hks, List.map_nil, List.nil_append]
    rw [flt_same (N := N) (T := T) (B := B) (ks := is) (fun j hj => hsame j (fun e => hno (by rw [← e]; simp [hj])))]
    rw [List.filter_cons, if_pos (by rw [decide_eq_true_eq]; exact hn), List.map_cons]
  · by_cases e : k' = k
    · subst e
      rw [BF_app hbk, BF_app (bk := va_up bk k' (ks ++ is)) (up_eq)]
      rw [flt_same (N := N) (T := T) (B := B) (ks := ks) (fun j hj => hsame j (fun e => hno (by rw [← e]; simp [hj])))]
      rw [flt_same (N := N) (T := T) (B := B) (ks := is) (fun j hj => hsame j (fun e => hno (by rw [← e]; simp [hj])))]
      rw [List.filter_cons, if_neg (by rw [decide_eq_true_eq, hn]; exact fun x => hne x.symm)]
    · exact BF_same (up_ne e) (fun j hj => hsame j (fun x => e (MS_one hM hk' hk (x ▸ hj) hin)))
def hdM : List Nat → Option Nat
  | [] => none
  | i :: _ => some (31 + 3 * i)
theorem rlk_hd {nx : Nat → Option Nat} : ∀ {is : List Nat} {r : Option Nat}, rlk nx is r → r = hdM is
  | [], _, h => h
  | _ :: _, _, h => h.1
theorem rlk_nx {nx : Nat → Option Nat} {i : Nat} {is : List Nat} : ∀ {ks : List Nat} {r : Option Nat}, rlk nx (ks ++ i :: is) r → nx (31 + 3 * i) = hdM is
  | [], _, h => rlk_hd h.2
  | _ :: _, _, h => rlk_nx h.2
theorem MS_nx {g : mu_T} {bk : Nat → List Nat} {sp : List Nat} {N T : Nat → List Int32} {B : Nat → Option Nat} {df db i k : Nat} {ks is : List Nat} (h : MS g bk sp N T B df db) (hk : k < 128) (hbk : bk k = ks ++ i :: is) : gR g (31 + 3 * i) 4 = hdM is := by
  have := h.2.2.2.1 k hk
  rw [hbk] at this
  exact rlk_nx this
theorem hdM_or {is : List Nat} (h : ∀ i ∈ is, i < 317) : hdM is = none ∨ ∃ j, j < 317 ∧ hdM is = some (31 + 3 * j) := by
  cases is with
  | nil => exact Or.inl rfl
  | cons i is => exact Or.inr ⟨i, h i (List.mem_cons_self ..), rfl⟩
theorem unA_app {nm : List Int32} {x : Option Nat × List Int32} : ∀ {L : List (Option Nat × List Int32)} {c : Nat × Nat}, unA nm (L ++ [x]) c = un1 nm x (unA nm L c)
  | [], _ => rfl
  | y :: L, c => by
    show unA nm (L ++ [x]) (un1 nm y c) = _
    rw [unA_app]; rfl
theorem un1_le {nm : List Int32} {x : Option Nat × List Int32} {c : Nat × Nat} : (un1 nm x c).1 ≤ c.1 ∧ (un1 nm x c).2 ≤ c.2 := by
  rw [un1]
  split
  · exact ⟨Nat.sub_le _ _, Nat.sub_le _ _⟩
  · exact ⟨Nat.le_refl _, Nat.le_refl _⟩
theorem unA_le {nm : List Int32} : ∀ {L : List (Option Nat × List Int32)} {c : Nat × Nat}, (unA nm L c).1 ≤ c.1 ∧ (unA nm L c).2 ≤ c.2
  | [], _ => ⟨Nat.le_refl _, Nat.le_refl _⟩
  | y :: L, c => by
    have h1 := unA_le (nm := nm) (L := L) (c := un1 nm y c)
    have h2 := un1_le (nm := nm) (x := y) (c := c)
    exact ⟨Nat.le_trans h1.1 h2.1, Nat.le_trans h1.2 h2.2⟩
theorem tk_fin {w : mu_T} {bk : Nat → List Nat} {sp : List Nat} {N T : Nat → List Int32} {B : Nat → Option Nat} {df db d e nb bb k : Nat} {nm : List Int32} {P : Mng} {all : Bool} {rem : List (Option Nat × List Int32)} (hM : MS w bk sp N T B d e) (hC : MC sp N T B d e nb bb) (h1 : nb ≤ 17) (h2 : bb ≤ 128) (hdf : df ≤ 300) (hdb : db ≤ 16384) (hk2 : hsh nm &&& 127 = nI k) (hk1 : k < 128) (hde : (d, e) = unA nm rem (df, db)) (ho : ∀ nm' k', k' < 128 → hsh nm' &&& 127 = nI k' → nm' ≠ nm → P nm' = BF bk N T B k' nm') (hA : (if all = true then P nm else (P nm).take 1) = rem) (hB : (P nm).drop (if all = true then (P nm).length else 1) = BF bk N T B k nm) :
    MP w (pu P nm ((P nm).drop (if all = true then (P nm).length else 1))) (unA nm (if all = true then P nm else (P nm).take 1) (df, db)).1 (unA nm (if all = true then P nm else (P nm).take 1) (df, db)).2 := by
  have hl := unA_le (nm := nm) (L := rem) (c := (df, db))
  rw [← hde] at hl
  rw [hA, hB, ← hde]
  refine ⟨bk, sp, N, T, B, nb, bb, hM, hC, h1, h2, Nat.le_trans hl.1 hdf, Nat.le_trans hl.2 hdb, fun nm' k' hk' hh => ?_⟩
  rw [pu]
  by_cases x : nm' = nm
  · subst x
    rw [if_pos rfl]
    rw [hk2] at hh
    rw [(nI_eq (by omega) (by omega)).mp hh]
  · rw [if_neg x]; exact ho nm' k' hk' hh x
section VNM
variable {p : Program} {l : Launch} {e : Env} {R : Room} {s : State} {m : MethodId} {args : Array Value} {below : List Frame} {meth : Method} {c : Code} {nL : Nat} {q : ev_T} {Qf : State → Prop} {pc : Nat} {la : List (Option Value)} {st : List Value} {bc bs : Nat} {g : mu_T} {u : mm_T} {cc : ByteArray} {own : String}
theorem v_aloadR (X : Cx p s m args c cc nL own q) {i : Nat} {r : Option Nat} (hd : decode cc pc = .ok (.aload i, 2)) (hl : la[i]? = some (some (va_rf r))) (k : Vv p l e R s m args below meth c nL q Qf (pc + 2) la (va_rf r :: st) u) : Vv p l e R s m args below meth c nL q Qf pc la st u := by
  cases r with
  | none => exact v_aloadN X hd hl k
  | some a => exact v_aload X hd hl k
theorem v_aastM (X : Cx p s m args c cc nL own q) {i : Int32} {r : Option Nat} (hd : decode cc pc = .ok (.aastore, 1)) (ha : 982 ≤ gN g) (hin : vp_in i 128) (hr : r = none ∨ ∃ j, j < 317 ∧ r = some (31 + 3 * j)) (kk : Vv p l e R s m args below meth c nL q Qf (pc + 1) la st (bc, bs, xR g 29 i.toNatClampNeg r)) : Vv p l e R s m args below meth c nL q Qf pc la (va_rf r :: .int i :: .ref 29 :: st) (bc, bs, g) := by
  rcases hr with rfl | ⟨j, hj, rfl⟩
  · exact v_aastN X hd rfl rfl (by decide) (by omega) hin kk
  · exact v_aast (r := ("RescanMill$Meaning", _, _)) X hd rfl rfl (by decide) (by omega) hin (kdM j hj).1 rfl (by omega) kk
end VNM
