/-! the reference: what a call does -/
/-- the state of the reference, without the open calls and what is given -/
def RZ (g : mu_T) (fu : Nat) (S : Mst) : Prop := Shp g ∧ RQ g fu S.1 ∧ QT g S.2.1.1 S.2.1.2 ∧ ((∀ x ∈ S.2.1.1, isByte x) ∧ ∀ x ∈ S.2.1.2, isByte x) ∧ RP g S.2.2.2.1 ∧ DVR g S.2.2.2.2.1 S.2.2.2.2.2
theorem RZ.rs {g w : mu_T} {K U : List Nat} {fu : Nat} {S : Mst} (h : RZ g fu S) (z : rs g w K U) (hK : ∀ k ∈ [4, 8, 9, 10, 11, 13, 15, 21, 27, 28, 29, 32, 33], k ∉ K) (hU : ∀ r ∈ [1006, 1007, 1008, 1011, 1012, 1013, 1014, 1015, 1016, 1017], r ∉ U) : RZ w fu S := by
  obtain ⟨h1, h2, h3, h4, h5, h6⟩ := h
  exact ⟨z.S h1, h2.rs z (fun k hk => hK k (by revert k; decide)) (hU 1006 (by decide)), h3.rs z (hK 13 (by decide)) (hK 15 (by decide)) (hU 1007 (by decide)) (hU 1008 (by decide)), h4, h5.rs z (fun k hk => hK k (by revert k; decide)) (fun k hk => hU k (by revert k; decide)), h6.rs z (hK 32 (by decide)) (hK 33 (by decide)) (hU 1016 (by decide)) (hU 1017 (by decide))⟩
/-- an error: its number, its line, what was used, the counts of meanings -/
def ER (w : mu_T) (fu : Nat) (e : Int32) (S : Mst) : Prop := gI w 1003 2 = e ∧ gI w 1003 3 = nI (S.1.2.2.2 + 1) ∧ gI w 1003 4 = nI (fu - S.1.2.2.1) ∧ gI w 1003 28 = nI S.2.2.2.1.2.1 ∧ gI w 1003 29 = nI S.2.2.2.1.2.2
/-- what a call gives -/
def AP (w : mu_T) (fu : Nat) (X : Int32 × Mst × List Int32) : Prop := (X.1 = 0 → GE w X.2.1.1 X.2.2 ∧ RZ w fu X.2.1) ∧ (¬ X.1 = 0 → ER w fu X.1 X.2.1)
theorem RP.cnt {g : mu_T} {S : Mng × Nat × Nat} (h : RP g S) : gI g 1003 28 = nI S.2.1 ∧ gI g 1003 29 = nI S.2.2 := by
  obtain ⟨M, a, b, c, d, e⟩ := h
  rw [e]
  exact ⟨a.2.2.1, a.2.2.2.1⟩
theorem AP_g {g w : mu_T} {fu : Nat} {S : Mst} {F : List Int32} (h : RZ g fu S) (z : rs g w [2, 3, 20] [1010]) (hG : GE w S.1 F) : AP w fu (0, S, F) := ⟨fun _ => ⟨hG, h.rs z (by decide) (by decide)⟩, fun h => absurd rfl h⟩
theorem AP_e {g w : mu_T} {K U : List Nat} {fu : Nat} {n : Int32} {S : Mst} {F : List Int32} (h : RZ g fu S) (hn : ¬ n = 0) (z : rs g w K U) (hK : ∀ k ∈ [4, 28, 29], k ∉ K) (h2 : gI w 1003 2 = n) (h3 : gI w 1003 3 = gI g 1003 10) : AP w fu (n, S, F) := ⟨fun e => absurd e hn, fun _ => ⟨h2, h3.trans h.2.1.2.2.2.2.2.1, (z.2 4 (hK 4 (by decide))).trans h.2.1.2.2.2.2.2.2.2.1, (z.2 28 (hK 28 (by decide))).trans h.2.2.2.2.1.cnt.1, (z.2 29 (hK 29 (by decide))).trans h.2.2.2.2.1.cnt.2⟩⟩
/-- the meaning loses a name -/
theorem mgP_fgt {A B : List Me} {e : Me} {nm : List Int32} (he : e.1 = nm) (hB : ∀ x ∈ B, x.1 ≠ nm) : (mgP (A ++ B), cD (A ++ B), cB (A ++ B)) = tkO false (mgP (A ++ e :: B), cD (A ++ e :: B), cB (A ++ e :: B)) nm := by
  have h1 : mgP (A ++ e :: B) nm = e.2 :: mgP A nm := mgP_top he hB
  rw [tkO, if_neg (by decide), if_neg (by decide)]
  show _ = (pu (mgP (A ++ e :: B)) nm ((mgP (A ++ e :: B) nm).drop 1), unA nm ((mgP (A ++ e :: B) nm).take 1) (cD (A ++ e :: B), cB (A ++ e :: B)))
  rw [h1, mgP_del he hB]
  refine Prod.ext (by show pu (mgP (A ++ e :: B)) nm ((mgP (A ++ e :: B) nm).drop 1) = pu (mgP (A ++ e :: B)) nm ((e.2 :: mgP A nm).drop 1); rw [h1]) ?_
  show (cD (A ++ B), cB (A ++ B)) = un1 nm e.2 (cD (A ++ e :: B), cB (A ++ e :: B))
  rw [un1, cD_app, cB_app, cD_app, cB_app, cD, cB, uB, mB, List.length_append, he]
  by_cases c : e.2.1 = none
  · rw [if_pos c, if_pos c, if_pos c]
    exact Prod.ext (by show cD A + cD B = cD A + (1 + cD B) - 1; omega) (by show cB A + cB B = cB A + (nm.length + e.2.2.length + cB B) - (nm.length + e.2.2.length); omega)
  · rw [if_neg c, if_neg c, if_neg c, Nat.zero_add, Nat.zero_add]
theorem tkO_no {all : Bool} {S : Mng × Nat × Nat} {nm : List Int32} (h : S.1 nm = []) : tkO all S nm = S := by
  rw [tkO, h]
  refine Prod.ext ?_ (by cases all <;> rfl)
  funext x
  show (if x = nm then _ else _) = _
  by_cases c : x = nm
  · rw [if_pos c, c, h]; cases all <;> rfl
  · rw [if_neg c]
theorem tkO_st {S : Mng × Nat × Nat} {nm : List Int32} {x : Option Nat × List Int32} {L : List (Option Nat × List Int32)} (h : S.1 nm = x :: L) : tkO true S nm = tkO true (tkO false S nm) nm := by
  rw [tkO, tkO, tkO, h]
  show (pu S.1 nm ((x :: L).drop (if true = true then (x :: L).length else 1)), unA nm (x :: L) S.2) = (pu (pu S.1 nm L) nm ((pu S.1 nm L nm).drop (if true = true then (pu S.1 nm L nm).length else 1)), unA nm (pu S.1 nm L nm) (un1 nm x S.2))
  rw [pu_eq, pu_pu, if_pos rfl, if_pos rfl, List.drop_length, List.drop_length]
  rfl
theorem tkO_le {all : Bool} {nm : List Int32} : ∀ (L : List (Option Nat × List Int32)) (c : Nat × Nat), (unA nm L c).1 ≤ c.1 ∧ (unA nm L c).2 ≤ c.2
  | [], c => ⟨Nat.le_refl _, Nat.le_refl _⟩
  | x :: L, c => by
    have := tkO_le (all := all) (nm := nm) L (un1 nm x c)
    have h2 : (un1 nm x c).1 ≤ c.1 ∧ (un1 nm x c).2 ≤ c.2 := by
      rw [un1]; split
      · exact ⟨Nat.sub_le _ _, Nat.sub_le _ _⟩
      · exact ⟨Nat.le_refl _, Nat.le_refl _⟩
    exact ⟨Nat.le_trans this.1 h2.1, Nat.le_trans this.2 h2.2⟩
theorem nI_toI {n : Nat} (h : n < 2147483648) : (nI n).toInt = n := Int32.toInt_ofNat_of_lt h
theorem i64_1 {v : Int32} (h : (∃ x, x < 1000000000 ∧ v = nI x) ∨ ∃ x, x < 1000000000 ∧ v = -nI x) : v.toInt64 + 1 = (v + 1).toInt64 ∧ v.toInt64 - 1 = (v + -1).toInt64 := by
  have hv : -1000000000 < v.toInt ∧ v.toInt < 1000000000 := by
    rcases h with ⟨x, hx, rfl⟩ | ⟨x, hx, rfl⟩
    · rw [nI_toI (by omega)]; omega
    · rw [neg_nI (by omega)]; omega
  have e1 : ((1 : Int64)).toInt = 1 := rfl
  have e2 : ((1 : Int32)).toInt = 1 := rfl
  have e3 : ((-1 : Int32)).toInt = -1 := rfl
  refine ⟨?_, ?_⟩
  · rw [← Int64.toInt_inj, Int64.toInt_add, Int32.toInt_toInt64, Int32.toInt_toInt64, Int32.toInt_add, e1, e2]
    rw [Int.bmod_eq_of_le (by omega) (by omega), Int.bmod_eq_of_le (by omega) (by omega)]
  · rw [← Int64.toInt_inj, Int64.toInt_sub, Int32.toInt_toInt64, Int32.toInt_toInt64, Int32.toInt_add, e1, e3]
    rw [Int.bmod_eq_of_le (by omega) (by omega), Int.bmod_eq_of_le (by omega) (by omega)]
    omega
def aX (S : Mst) (f : Fr) (e : Option Nat × List Int32) : Int32 × Mst × List Int32 := match e with
  | (none, t) => (0, S, xpd (mrk f S.2.1.1 S.2.1.2) t)
  | (some c, _) => bI (c - 1048576) S f
theorem fnC_aX {f : Fr} {r : List Fr} {S : Mst} {e : Option Nat × List Int32} (h : (S.2.2.2.1.1 f.1).head? = some e) : fnC f r S = fnE r (aX S f e).1 (aX S f e).2.1 (aX S f e).2.2 := by
  obtain ⟨a, t⟩ := e
  rw [fnC, h]
  cases a with
  | none => rfl
  | some c =>
    dsimp only
    rw [show aX S f (some c, t) = bI (c - 1048576) S f from by rw [aX]]
theorem bI_7s {S : Mst} {f : Fr} {y : Int32} (hn : nmX (f.2.1.getD 0 []) = some y) : bI 7 S f = (0, S, [] ++ decB (y + 1)) := by
  show ((match nmX (f.2.1.getD 0 []) with | none => (36 : Int32) | some _ => 0), S, (match nmX (f.2.1.getD 0 []) with | none => [] | some x => decB (x + 1))) = _
  rw [hn, List.nil_append]
theorem bI_7n {S : Mst} {f : Fr} (hn : nmX (f.2.1.getD 0 []) = none) : bI 7 S f = (36, S, []) := by
  show ((match nmX (f.2.1.getD 0 []) with | none => (36 : Int32) | some _ => 0), S, (match nmX (f.2.1.getD 0 []) with | none => [] | some x => decB (x + 1))) = _
  rw [hn]
theorem bI_8s {S : Mst} {f : Fr} {y : Int32} (hn : nmX (f.2.1.getD 0 []) = some y) : bI 8 S f = (0, S, [] ++ decB (y + -1)) := by
  show ((match nmX (f.2.1.getD 0 []) with | none => (36 : Int32) | some _ => 0), S, (match nmX (f.2.1.getD 0 []) with | none => [] | some x => decB (x + -1))) = _
  rw [hn, List.nil_append]
theorem bI_8n {S : Mst} {f : Fr} (hn : nmX (f.2.1.getD 0 []) = none) : bI 8 S f = (36, S, []) := by
  show ((match nmX (f.2.1.getD 0 []) with | none => (36 : Int32) | some _ => 0), S, (match nmX (f.2.1.getD 0 []) with | none => [] | some x => decB (x + -1))) = _
  rw [hn]
theorem GE_nil {g : mu_T} {fu : Nat} {I : Ip} (hI : RQ g fu I) (he : gI g 1003 2 = 0) (hV : GV g []) : GE g I [] := Or.inl ⟨he, hV, by have := hI.2.1; rw [List.length_nil, Nat.zero_add]; exact this⟩
theorem AP_d {g w : mu_T} {fu : Nat} {ps : Bool} {S : Mst} {f : Fr} (h : RZ g fu S) (hV : GV g []) (z : rs g w [2, 3, 21, 27, 28, 29] [1011, 1012, 1013, 1014, 1015]) (a2 : gI w 1003 2 = dE ps (f.2.1.getD 0 []) (f.2.1.getD 1 []) S.2.2.2.1) (a3 : ¬ dE ps (f.2.1.getD 0 []) (f.2.1.getD 1 []) S.2.2.2.1 = 0 → gI w 1003 3 = gI g 1003 10) (a4 : RP w (dS ps (f.2.1.getD 0 []) (f.2.1.getD 1 []) S.2.2.2.1)) : AP w fu (dE ps (f.2.1.getD 0 []) (f.2.1.getD 1 []) S.2.2.2.1, (S.1, S.2.1, S.2.2.1, dS ps (f.2.1.getD 0 []) (f.2.1.getD 1 []) S.2.2.2.1, S.2.2.2.2), []) := by
  obtain ⟨h1, h2, h3, h4, h5, h6⟩ := h
  have r2 := h2.rs z (by decide) (by decide)
  refine ⟨fun e => ⟨GE_nil r2 (a2.trans e) (hV.rs z (by decide) (by decide)), z.S h1, r2, h3.rs z (by decide) (by decide) (by decide) (by decide), h4, a4, h6.rs z (by decide) (by decide) (by decide) (by decide)⟩, fun e => ⟨a2, (a3 e).trans h2.2.2.2.2.2.1, (z.2 4 (by decide)).trans h2.2.2.2.2.2.2.2.1, a4.cnt.1, a4.cnt.2⟩⟩
theorem AP_u {g w : mu_T} {fu : Nat} {S : Mst} {M : List Me} {X : Mng × Nat × Nat} (h : RZ g fu S) (hV : GV g []) (he : gI g 1003 2 = 0) (z : rs g w [21, 27, 28, 29] [1011, 1012, 1013, 1014, 1015]) (hM : RM w M) (hb1 : bnd M) (hb2 : cD M ≤ 300) (hb3 : cB M ≤ 16384) (hX : (mgP M, cD M, cB M) = X) : AP w fu (0, (S.1, S.2.1, S.2.2.1, X, S.2.2.2.2), []) := by
  obtain ⟨h1, h2, h3, h4, h5, h6⟩ := h
  have r2 := h2.rs z (by decide) (by decide)
  exact ⟨fun _ => ⟨GE_nil r2 ((z.2 2 (by decide)).trans he) (hV.rs z (by decide) (by decide)), z.S h1, r2, h3.rs z (by decide) (by decide) (by decide) (by decide), h4, ⟨M, hM, hb1, by rw [← hX]; exact hb2, by rw [← hX]; exact hb3, hX.symm⟩, h6.rs z (by decide) (by decide) (by decide) (by decide)⟩, fun e => absurd rfl e⟩
theorem AP_v {g w : mu_T} {fu : Nat} {S : Mst} {f : Fr} (h : RZ g fu S) (hw : ((evX (f.2.1.getD 0 [])).1 = 0 ∧ rs g w [2, 3, 20, 39, 40, 41, 42, 43, 44] [1010, 1020, 1021] ∧ GE w S.1 ([] ++ decB (evX (f.2.1.getD 0 [])).2)) ∨ (¬ (evX (f.2.1.getD 0 [])).1 = 0 ∧ rs g w [2, 3, 39, 40, 41, 42, 43, 44] [1020, 1021] ∧ gI w 1003 2 = (evX (f.2.1.getD 0 [])).1 ∧ gI w 1003 3 = gI g 1003 10)) : AP w fu (bI 6 S f) := by
  rcases hw with ⟨e, z, hG⟩ | ⟨e, z, h2, h3⟩
  · refine ⟨fun _ => ⟨?_, h.rs z (by decide) (by decide)⟩, fun e2 => absurd e e2⟩
    show GE w S.1 (if (evX (f.2.1.getD 0 [])).1 = 0 then decB (evX (f.2.1.getD 0 [])).2 else [])
    rw [if_pos e]; exact hG
  · exact AP_e h e z (by decide) h2 h3
theorem AP_s {g w : mu_T} {fu : Nat} {S : Mst} {f : Fr} (h : RZ g fu S) (z : rs g w [2, 3, 20] [1010]) (a2 : ∀ s, ctX f.2.1 = some s → GE w S.1 ([] ++ s)) (a3 : ctX f.2.1 = none → gI w 1003 2 = 36 ∧ gI w 1003 3 = gI g 1003 10) : AP w fu (bI 11 S f) := by
  show AP w fu (if (ctX f.2.1).isSome = true then 0 else 36, S, (ctX f.2.1).getD [])
  cases hc : ctX f.2.1 with
  | none => exact AP_e h (by decide) z (by decide) (a3 hc).1 (a3 hc).2
  | some s => exact AP_g h z (a2 s hc)
theorem AP_n {g w : mu_T} {fu : Nat} {S : Mst} {f : Fr} (h : RZ g fu S) (hV : GV g []) (z : rs g w [2, 3, 4, 8, 9, 10, 11] []) (a2 : RQ w fu (drL 32768 S.1).2) (a3 : gI w 1003 2 = (drL 32768 S.1).1) (a4 : ¬ (drL 32768 S.1).1 = 0 → gI w 1003 3 = nI ((drL 32768 S.1).2.2.2.2 + 1)) : AP w fu (bI 13 S f) := by
  obtain ⟨h1, h2, h3, h4, h5, h6⟩ := h
  exact ⟨fun e => ⟨GE_nil a2 (a3.trans e) (hV.rs z (by decide) (by decide)), z.S h1, a2, h3.rs z (by decide) (by decide) (by decide) (by decide), h4, h5.rs z (by decide) (by decide), h6.rs z (by decide) (by decide) (by decide) (by decide)⟩, fun e => ⟨a3, a4 e, a2.2.2.2.2.2.2.2.1, (z.2 28 (by decide)).trans h5.cnt.1, (z.2 29 (by decide)).trans h5.cnt.2⟩⟩
theorem AP_t {g w : mu_T} {fu : Nat} {S : Mst} {f : Fr} (h : RZ g fu S) (hV : GV g []) (z : rs g w [2, 3, 33] []) (a2 : gI w 1003 2 = dvE (nmX (f.2.1.getD 0 []))) (a3 : ¬ dvE (nmX (f.2.1.getD 0 [])) = 0 → gI w 1003 3 = gI g 1003 10) (a4 : dvE (nmX (f.2.1.getD 0 [])) = 0 → DVR w (dvC S.2.2.2.2.1 (nmX (f.2.1.getD 0 []))) S.2.2.2.2.2) : AP w fu (bI 14 S f) := by
  obtain ⟨h1, h2, h3, h4, h5, h6⟩ := h
  have r2 := h2.rs z (by decide) (by decide)
  exact ⟨fun e => ⟨GE_nil r2 (a2.trans e) (hV.rs z (by decide) (by decide)), z.S h1, r2, h3.rs z (by decide) (by decide) (by decide) (by decide), h4, h5.rs z (by decide) (by decide), a4 e⟩, fun e => ⟨a2, (a3 e).trans h2.2.2.2.2.2.1, (z.2 4 (by decide)).trans h2.2.2.2.2.2.2.2.1, (z.2 28 (by decide)).trans h5.cnt.1, (z.2 29 (by decide)).trans h5.cnt.2⟩⟩
theorem AP_i {g w : mu_T} {fu : Nat} {S : Mst} {f : Fr} (h : RZ g fu S) (hV : GV g []) (z : rs g w [2, 3, 32] [1016, 1017]) (a2 : gI w 1003 2 = (udX S.2.2.2.2.1 f.2.1 S.2.2.2.2.2).1) (a3 : ¬ (udX S.2.2.2.2.1 f.2.1 S.2.2.2.2.2).1 = 0 → gI w 1003 3 = gI g 1003 10) (a4 : (udX S.2.2.2.2.1 f.2.1 S.2.2.2.2.2).1 = 0 → DVR w S.2.2.2.2.1 (udX S.2.2.2.2.1 f.2.1 S.2.2.2.2.2).2) : AP w fu (bI 15 S f) := by
  obtain ⟨h1, h2, h3, h4, h5, h6⟩ := h
  have r2 := h2.rs z (by decide) (by decide)
  exact ⟨fun e => ⟨GE_nil r2 (a2.trans e) (hV.rs z (by decide) (by decide)), z.S h1, r2, h3.rs z (by decide) (by decide) (by decide) (by decide), h4, h5.rs z (by decide) (by decide), a4 e⟩, fun e => ⟨a2, (a3 e).trans h2.2.2.2.2.2.1, (z.2 4 (by decide)).trans h2.2.2.2.2.2.2.2.1, (z.2 28 (by decide)).trans h5.cnt.1, (z.2 29 (by decide)).trans h5.cnt.2⟩⟩
theorem AP_q {g w : mu_T} {fu : Nat} {S : Mst} {f : Fr} (h : RZ g fu S) (hV : GV g []) (he : gI g 1003 2 = 0) (hab : ∀ i, ∀ x ∈ f.2.1.getD i [], isByte x) (z : rs g w [2, 3, 13, 15] [1007, 1008]) (a2 : cqX f.2.1 = none → gI w 1003 2 = 37 ∧ gI w 1003 3 = gI g 1003 10) (a3 : ∀ p, cqX f.2.1 = some p → gI w 1003 2 = 0 ∧ QT w p.1 p.2) : AP w fu (bI 16 S f) := by
  show AP w fu (if (cqX f.2.1).isSome = true then 0 else 37, (S.1, (cqX f.2.1).getD S.2.1, S.2.2), [])
  cases hc : cqX f.2.1 with
  | none => exact AP_e h (by decide) z (by decide) (a2 hc).1 (a2 hc).2
  | some p =>
    obtain ⟨h1, h2, h3, h4, h5, h6⟩ := h
    have r2 := h2.rs z (by decide) (by decide)
    have hb : (∀ x ∈ p.1, isByte x) ∧ ∀ x ∈ p.2, isByte x := by
      rw [cqX] at hc
      split at hc
      · cases hc; exact ⟨fun x hx => by rw [List.mem_singleton.mp hx]; rfl, fun x hx => by rw [List.mem_singleton.mp hx]; rfl⟩
      · split at hc
        · cases hc; exact ⟨hab 0, hab 1⟩
        · cases hc
    exact ⟨fun _ => ⟨GE_nil r2 (a3 p hc).1 (hV.rs z (by decide) (by decide)), z.S h1, r2, (a3 p hc).2, hb, h5.rs z (by decide) (by decide), h6.rs z (by decide) (by decide) (by decide) (by decide)⟩, fun e => absurd rfl e⟩
set_option maxHeartbeats 4000000 in
set_option maxRecDepth 100000 in
theorem r_act_n (l : Launch) (q : ev_T) {fu : Nat} {f : Fr} {r : List Fr} {S : Mst} {M A B : List Me} {e : Me} {g : mu_T} (hZ : RZ g fu S) (he : gI g 1003 2 = 0) (hV : GV g []) (hC : AC g f r) (hM : RM g M) (hbd : bnd M) (hdf : S.2.2.2.1.2.1 ≤ 300) (hdb : S.2.2.2.1.2.2 ≤ 16384) (hSe : S.2.2.2.1 = (mgP M, cD M, cB M)) (hMA : M = A ++ e :: B) (he2 : e.2.1 = none) : Ctr l q M_Rf_act 66 [.ref 1003, .int (nI A.length), .int (nI (hl r).length), .int (nI f.1.length), .int (nI (na r))] (0, 0, g) (fun v w => v = none ∧ rs g w.2.2 [2, 3, 4, 8, 9, 10, 11, 13, 15, 20, 21, 27, 28, 29, 32, 33, 39, 40, 41, 42, 43, 44] [1007, 1008, 1010, 1011, 1012, 1013, 1014, 1015, 1016, 1017, 1020, 1021] ∧ AP w.2.2 fu (aX S f e.2)) := by
  have hS := hZ.1
  have hI := hZ.2.1
  have hQ := hZ.2.2.1
  have hby := hZ.2.2.2.1
  have hP := hZ.2.2.2.2.1
  have hD := hZ.2.2.2.2.2
  have hG := GE_nil hI he hV
  have hat := (show RM g (A ++ e :: B) from hMA ▸ hM).at.1
  have hAl : A.length < 317 := by have := hM.2.2.2.2.2.2.1; rw [hMA, List.length_append, List.length_cons] at this; omega
  have hem : e ∈ M := by rw [hMA]; exact List.mem_append_right _ (List.mem_cons_self ..)
  have h16 := hC.1.1.2.2
  have hna : na r + f.2.1.length ≤ 8192 := hC.1.2.2.1
  have hj := he2
  have haX : aX S f e.2 = (0, S, [] ++ xpd (mrk f S.2.1.1 S.2.1.2) e.2.2) := by rw [show e.2 = (none, e.2.2) from by rw [← he2]]; rfl
  refine Ctr.mk (lb := [some (.ref 1003), some (.int (nI A.length)), some (.int (nI (hl r).length)), some (.int (nI f.1.length)), some (.int (nI (na r))), none, none, none, none]) (by decide +kernel) (Nat.le_of_ble_eq_true rfl) rfl rfl ?_
  intro pp ee ss mm aa bb mt cd X hrt hlk hnm
  refine v_inv (fun hBB _ => ?_)
  have hab : ∀ i, ∀ x ∈ f.2.1.getD i [], isByte x := fun i => rw_byte hBB (r := 1018) (N := 16385) rfl (hC.1.1.arg i)
  refine v_aload_n X (dk D_Rf_act 0 rfl) rfl ?_
  refine v_getI X (dk D_Rf_act 1 rfl) F_Rf_243 rfl rfl (hS.lt (by decide)) ?_
  rw [hC.1.2.1, show na (f :: r) = na r + f.2.1.length from rfl]
  refine v_iload X (dk D_Rf_act 2 rfl) rfl ?_
  refine v_isub X (dk D_Rf_act 3 rfl) ?_
  rw [show nI (na r + f.2.1.length) - nI (na r) = nI f.2.1.length from by rw [pk_sub (by omega), Nat.add_sub_cancel_left]]
  refine v_istore (lb := [some (.ref 1003), some (.int (nI A.length)), some (.int (nI (hl r).length)), some (.int (nI f.1.length)), some (.int (nI (na r))), some (.int (nI f.2.1.length)), none, none, none]) X (dk D_Rf_act 4 rfl) (by decide) rfl ?_
  refine v_aload_n X (dk D_Rf_act 5 rfl) rfl ?_
  refine v_getF X (dk D_Rf_act 6 rfl) F_Rf_43 rfl rfl (hS.lt (by decide)) (hS.2 1003 25) ?_
  refine v_iload_n X (dk D_Rf_act 7 rfl) rfl ?_
  refine v_iald X (dk D_Rf_act 8 rfl) rfl (hS.lt (by decide)) (vp_in_nI (show A.length < 340 by omega) (by decide)) ?_
  rw [nI_clamp (by omega), hat.2.2.2, hj]
  rw [show nI (bN (none)) = 0 from rfl]
  refine v_tableIn (tgt := 84) X (dk D_Rf_act 9 rfl) (by decide) (by decide) rfl (by decide) ?_
  refine v_aload_n X (dk D_Rf_act 10 rfl) rfl ?_
  refine v_iload_n X (dk D_Rf_act 11 rfl) rfl ?_
  refine v_iload_n X (dk D_Rf_act 12 rfl) rfl ?_
  refine v_iload_n X (dk D_Rf_act 13 rfl) rfl ?_
  refine v_iload X (dk D_Rf_act 14 rfl) rfl ?_
  refine v_invV (As := [.int (nI A.length), .int (nI (hl r).length), .int (nI f.1.length), .int (nI (na r))]) (st := []) X (r_giveText l q hS hI hG hC hQ hby.1 hby.2 (hMA ▸ hM)) (dk D_Rf_act 15 rfl) G_Rf_285 K_Rf_giveText V_Rf_giveText rfl rfl (hS.lt (by decide)) rfl rfl (Nat.le_of_ble_eq_true rfl) (Nat.le_of_ble_eq_true rfl) (Nat.le_of_ble_eq_true rfl) (Nat.le_of_ble_eq_true rfl) (Nat.le_of_ble_eq_true rfl) ?_
  rintro v w1 ⟨rfl, a1, a2⟩
  show Vv _ _ _ _ _ _ _ _ _ _ _ _ _ _ _ [] (0, 0, w1.2.2)
  refine v_goto (tgt := 417) X (dk D_Rf_act 16 rfl) (by decide) ?_
  exact v_vret X hlk hrt (dk D_Rf_act 179 rfl) ⟨rfl, (a1.mono (by decide) (by decide)), by rw [haX]; exact AP_g hZ a1 a2⟩
set_option maxHeartbeats 4000000 in
set_option maxRecDepth 100000 in
theorem r_act_0 (l : Launch) (q : ev_T) {fu : Nat} {f : Fr} {r : List Fr} {S : Mst} {M A B : List Me} {e : Me} {g : mu_T} (hZ : RZ g fu S) (he : gI g 1003 2 = 0) (hV : GV g []) (hC : AC g f r) (hM : RM g M) (hbd : bnd M) (hdf : S.2.2.2.1.2.1 ≤ 300) (hdb : S.2.2.2.1.2.2 ≤ 16384) (hSe : S.2.2.2.1 = (mgP M, cD M, cB M)) (hMA : M = A ++ e :: B) (he2 : e.2.1 = some (1048576 + 0)) : Ctr l q M_Rf_act 66 [.ref 1003, .int (nI A.length), .int (nI (hl r).length), .int (nI f.1.length), .int (nI (na r))] (0, 0, g) (fun v w => v = none ∧ rs g w.2.2 [2, 3, 4, 8, 9, 10, 11, 13, 15, 20, 21, 27, 28, 29, 32, 33, 39, 40, 41, 42, 43, 44] [1007, 1008, 1010, 1011, 1012, 1013, 1014, 1015, 1016, 1017, 1020, 1021] ∧ AP w.2.2 fu (aX S f e.2)) := by
  have hS := hZ.1
  have hI := hZ.2.1
  have hQ := hZ.2.2.1
  have hby := hZ.2.2.2.1
  have hP := hZ.2.2.2.2.1
  have hD := hZ.2.2.2.2.2
  have hG := GE_nil hI he hV
  have hat := (show RM g (A ++ e :: B) from hMA ▸ hM).at.1
  have hAl : A.length < 317 := by have := hM.2.2.2.2.2.2.1; rw [hMA, List.length_append, List.length_cons] at this; omega
  have hem : e ∈ M := by rw [hMA]; exact List.mem_append_right _ (List.mem_cons_self ..)
  have h16 := hC.1.1.2.2
  have hna : na r + f.2.1.length ≤ 8192 := hC.1.2.2.1
  have hj := he2
  have haX : aX S f e.2 = bI 0 S f := by rw [show e.2 = (some (1048576 + 0), e.2.2) from by rw [← he2], aX, Nat.add_sub_cancel_left]
  refine Ctr.mk (lb := [some (.ref 1003), some (.int (nI A.length)), some (.int (nI (hl r).length)), some (.int (nI f.1.length)), some (.int (nI (na r))), none, none, none, none]) (by decide +kernel) (Nat.le_of_ble_eq_true rfl) rfl rfl ?_
  intro pp ee ss mm aa bb mt cd X hrt hlk hnm
  refine v_inv (fun hBB _ => ?_)
  have hab : ∀ i, ∀ x ∈ f.2.1.getD i [], isByte x := fun i => rw_byte hBB (r := 1018) (N := 16385) rfl (hC.1.1.arg i)
  refine v_aload_n X (dk D_Rf_act 0 rfl) rfl ?_
  refine v_getI X (dk D_Rf_act 1 rfl) F_Rf_243 rfl rfl (hS.lt (by decide)) ?_
  rw [hC.1.2.1, show na (f :: r) = na r + f.2.1.length from rfl]
  refine v_iload X (dk D_Rf_act 2 rfl) rfl ?_
  refine v_isub X (dk D_Rf_act 3 rfl) ?_
  rw [show nI (na r + f.2.1.length) - nI (na r) = nI f.2.1.length from by rw [pk_sub (by omega), Nat.add_sub_cancel_left]]
  refine v_istore (lb := [some (.ref 1003), some (.int (nI A.length)), some (.int (nI (hl r).length)), some (.int (nI f.1.length)), some (.int (nI (na r))), some (.int (nI f.2.1.length)), none, none, none]) X (dk D_Rf_act 4 rfl) (by decide) rfl ?_
  refine v_aload_n X (dk D_Rf_act 5 rfl) rfl ?_
  refine v_getF X (dk D_Rf_act 6 rfl) F_Rf_43 rfl rfl (hS.lt (by decide)) (hS.2 1003 25) ?_
  refine v_iload_n X (dk D_Rf_act 7 rfl) rfl ?_
  refine v_iald X (dk D_Rf_act 8 rfl) rfl (hS.lt (by decide)) (vp_in_nI (show A.length < 340 by omega) (by decide)) ?_
  rw [nI_clamp (by omega), hat.2.2.2, hj]
  rw [show nI (bN (some (1048576 + 0))) = 1 from rfl]
  refine v_tableIn (tgt := 96) X (dk D_Rf_act 9 rfl) (by decide) (by decide) rfl (by decide) ?_
  refine v_aload_n X (dk D_Rf_act 17 rfl) rfl ?_
  refine v_iload X (dk D_Rf_act 18 rfl) rfl ?_
  refine v_aload_n X (dk D_Rf_act 19 rfl) rfl ?_
  refine v_getF X (dk D_Rf_act 20 rfl) F_Rf_43 rfl rfl (hS.lt (by decide)) (hS.2 1003 25) ?_
  refine v_iload_n X (dk D_Rf_act 21 rfl) rfl ?_
  refine v_iald X (dk D_Rf_act 22 rfl) rfl (hS.lt (by decide)) (vp_in_nI (show A.length < 340 by omega) (by decide)) ?_
  rw [nI_clamp (by omega), hat.2.2.2, hj]
  rw [show nI (bN (some (1048576 + 0))) = 1 from rfl]
  refine v_iconst (v := 2) X (dk D_Rf_act 23 rfl) (by decide) ?_
  refine v_icmp_ne (tgt := 113) X (dk D_Rf_act 24 rfl) (by decide) (fun _ => ?_) (fun c106 => absurd c106 (by decide))
  refine v_iconst (v := 0) X (dk D_Rf_act 27 rfl) (by decide) ?_
  refine v_invV (As := [.int (nI (na r)), .int 0]) (st := []) X (r_define l q (ps := false) hS he hC hP) (dk D_Rf_act 28 rfl) G_Rf_288 K_Rf_define V_Rf_define rfl rfl (hS.lt (by decide)) rfl rfl (Nat.le_of_ble_eq_true rfl) (Nat.le_of_ble_eq_true rfl) (Nat.le_of_ble_eq_true rfl) (Nat.le_of_ble_eq_true rfl) (Nat.le_of_ble_eq_true rfl) ?_
  rintro v w1 ⟨rfl, a1, a2, a3, a4⟩
  show Vv _ _ _ _ _ _ _ _ _ _ _ _ _ _ _ [] (0, 0, w1.2.2)
  refine v_goto (tgt := 417) X (dk D_Rf_act 29 rfl) (by decide) ?_
  exact v_vret X hlk hrt (dk D_Rf_act 179 rfl) ⟨rfl, (a1.mono (by decide) (by decide)), by rw [haX]; exact AP_d (ps := false) hZ hV a1 a2 a3 a4⟩
set_option maxHeartbeats 4000000 in
set_option maxRecDepth 100000 in
theorem r_act_1 (l : Launch) (q : ev_T) {fu : Nat} {f : Fr} {r : List Fr} {S : Mst} {M A B : List Me} {e : Me} {g : mu_T} (hZ : RZ g fu S) (he : gI g 1003 2 = 0) (hV : GV g []) (hC : AC g f r) (hM : RM g M) (hbd : bnd M) (hdf : S.2.2.2.1.2.1 ≤ 300) (hdb : S.2.2.2.1.2.2 ≤ 16384) (hSe : S.2.2.2.1 = (mgP M, cD M, cB M)) (hMA : M = A ++ e :: B) (he2 : e.2.1 = some (1048576 + 1)) : Ctr l q M_Rf_act 66 [.ref 1003, .int (nI A.length), .int (nI (hl r).length), .int (nI f.1.length), .int (nI (na r))] (0, 0, g) (fun v w => v = none ∧ rs g w.2.2 [2, 3, 4, 8, 9, 10, 11, 13, 15, 20, 21, 27, 28, 29, 32, 33, 39, 40, 41, 42, 43, 44] [1007, 1008, 1010, 1011, 1012, 1013, 1014, 1015, 1016, 1017, 1020, 1021] ∧ AP w.2.2 fu (aX S f e.2)) := by
  have hS := hZ.1
  have hI := hZ.2.1
  have hQ := hZ.2.2.1
  have hby := hZ.2.2.2.1
  have hP := hZ.2.2.2.2.1
  have hD := hZ.2.2.2.2.2
  have hG := GE_nil hI he hV
  have hat := (show RM g (A ++ e :: B) from hMA ▸ hM).at.1
  have hAl : A.length < 317 := by have := hM.2.2.2.2.2.2.1; rw [hMA, List.length_append, List.length_cons] at this; omega
  have hem : e ∈ M := by rw [hMA]; exact List.mem_append_right _ (List.mem_cons_self ..)
  have h16 := hC.1.1.2.2
  have hna : na r + f.2.1.length ≤ 8192 := hC.1.2.2.1
  have hj := he2
  have haX : aX S f e.2 = bI 1 S f := by rw [show e.2 = (some (1048576 + 1), e.2.2) from by rw [← he2], aX, Nat.add_sub_cancel_left]
  refine Ctr.mk (lb := [some (.ref 1003), some (.int (nI A.length)), some (.int (nI (hl r).length)), some (.int (nI f.1.length)), some (.int (nI (na r))), none, none, none, none]) (by decide +kernel) (Nat.le_of_ble_eq_true rfl) rfl rfl ?_
  intro pp ee ss mm aa bb mt cd X hrt hlk hnm
  refine v_inv (fun hBB _ => ?_)
  have hab : ∀ i, ∀ x ∈ f.2.1.getD i [], isByte x := fun i => rw_byte hBB (r := 1018) (N := 16385) rfl (hC.1.1.arg i)
  refine v_aload_n X (dk D_Rf_act 0 rfl) rfl ?_
  refine v_getI X (dk D_Rf_act 1 rfl) F_Rf_243 rfl rfl (hS.lt (by decide)) ?_
  rw [hC.1.2.1, show na (f :: r) = na r + f.2.1.length from rfl]
  refine v_iload X (dk D_Rf_act 2 rfl) rfl ?_
  refine v_isub X (dk D_Rf_act 3 rfl) ?_
  rw [show nI (na r + f.2.1.length) - nI (na r) = nI f.2.1.length from by rw [pk_sub (by omega), Nat.add_sub_cancel_left]]
  refine v_istore (lb := [some (.ref 1003), some (.int (nI A.length)), some (.int (nI (hl r).length)), some (.int (nI f.1.length)), some (.int (nI (na r))), some (.int (nI f.2.1.length)), none, none, none]) X (dk D_Rf_act 4 rfl) (by decide) rfl ?_
  refine v_aload_n X (dk D_Rf_act 5 rfl) rfl ?_
  refine v_getF X (dk D_Rf_act 6 rfl) F_Rf_43 rfl rfl (hS.lt (by decide)) (hS.2 1003 25) ?_
  refine v_iload_n X (dk D_Rf_act 7 rfl) rfl ?_
  refine v_iald X (dk D_Rf_act 8 rfl) rfl (hS.lt (by decide)) (vp_in_nI (show A.length < 340 by omega) (by decide)) ?_
  rw [nI_clamp (by omega), hat.2.2.2, hj]
  rw [show nI (bN (some (1048576 + 1))) = 2 from rfl]
  refine v_tableIn (tgt := 96) X (dk D_Rf_act 9 rfl) (by decide) (by decide) rfl (by decide) ?_
  refine v_aload_n X (dk D_Rf_act 17 rfl) rfl ?_
  refine v_iload X (dk D_Rf_act 18 rfl) rfl ?_
  refine v_aload_n X (dk D_Rf_act 19 rfl) rfl ?_
  refine v_getF X (dk D_Rf_act 20 rfl) F_Rf_43 rfl rfl (hS.lt (by decide)) (hS.2 1003 25) ?_
  refine v_iload_n X (dk D_Rf_act 21 rfl) rfl ?_
  refine v_iald X (dk D_Rf_act 22 rfl) rfl (hS.lt (by decide)) (vp_in_nI (show A.length < 340 by omega) (by decide)) ?_
  rw [nI_clamp (by omega), hat.2.2.2, hj]
  rw [show nI (bN (some (1048576 + 1))) = 2 from rfl]
  refine v_iconst (v := 2) X (dk D_Rf_act 23 rfl) (by decide) ?_
  refine v_icmp_ne (tgt := 113) X (dk D_Rf_act 24 rfl) (by decide) (fun c106 => absurd rfl c106) (fun _ => ?_)
  refine v_iconst (v := 1) X (dk D_Rf_act 25 rfl) (by decide) ?_
  refine v_goto (tgt := 114) X (dk D_Rf_act 26 rfl) (by decide) ?_
  refine v_invV (As := [.int (nI (na r)), .int 1]) (st := []) X (r_define l q (ps := true) hS he hC hP) (dk D_Rf_act 28 rfl) G_Rf_288 K_Rf_define V_Rf_define rfl rfl (hS.lt (by decide)) rfl rfl (Nat.le_of_ble_eq_true rfl) (Nat.le_of_ble_eq_true rfl) (Nat.le_of_ble_eq_true rfl) (Nat.le_of_ble_eq_true rfl) (Nat.le_of_ble_eq_true rfl) ?_
  rintro v w1 ⟨rfl, a1, a2, a3, a4⟩
  show Vv _ _ _ _ _ _ _ _ _ _ _ _ _ _ _ [] (0, 0, w1.2.2)
  refine v_goto (tgt := 417) X (dk D_Rf_act 29 rfl) (by decide) ?_
  exact v_vret X hlk hrt (dk D_Rf_act 179 rfl) ⟨rfl, (a1.mono (by decide) (by decide)), by rw [haX]; exact AP_d (ps := true) hZ hV a1 a2 a3 a4⟩
set_option maxHeartbeats 4000000 in
set_option maxRecDepth 100000 in
theorem r_act_2 (l : Launch) (q : ev_T) {fu : Nat} {f : Fr} {r : List Fr} {S : Mst} {M A B : List Me} {e : Me} {g : mu_T} (hZ : RZ g fu S) (he : gI g 1003 2 = 0) (hV : GV g []) (hC : AC g f r) (hM : RM g M) (hbd : bnd M) (hdf : S.2.2.2.1.2.1 ≤ 300) (hdb : S.2.2.2.1.2.2 ≤ 16384) (hSe : S.2.2.2.1 = (mgP M, cD M, cB M)) (hMA : M = A ++ e :: B) (he2 : e.2.1 = some (1048576 + 2)) : Ctr l q M_Rf_act 66 [.ref 1003, .int (nI A.length), .int (nI (hl r).length), .int (nI f.1.length), .int (nI (na r))] (0, 0, g) (fun v w => v = none ∧ rs g w.2.2 [2, 3, 4, 8, 9, 10, 11, 13, 15, 20, 21, 27, 28, 29, 32, 33, 39, 40, 41, 42, 43, 44] [1007, 1008, 1010, 1011, 1012, 1013, 1014, 1015, 1016, 1017, 1020, 1021] ∧ AP w.2.2 fu (aX S f e.2)) := by
  have hS := hZ.1
  have hI := hZ.2.1
  have hQ := hZ.2.2.1
  have hby := hZ.2.2.2.1
  have hP := hZ.2.2.2.2.1
  have hD := hZ.2.2.2.2.2
  have hG := GE_nil hI he hV
  have hat := (show RM g (A ++ e :: B) from hMA ▸ hM).at.1
  have hAl : A.length < 317 := by have := hM.2.2.2.2.2.2.1; rw [hMA, List.length_append, List.length_cons] at this; omega
  have hem : e ∈ M := by rw [hMA]; exact List.mem_append_right _ (List.mem_cons_self ..)
  have h16 := hC.1.1.2.2
  have hna : na r + f.2.1.length ≤ 8192 := hC.1.2.2.1
  have hj := he2
  have haX : aX S f e.2 = bI 2 S f := by rw [show e.2 = (some (1048576 + 2), e.2.2) from by rw [← he2], aX, Nat.add_sub_cancel_left]
  refine Ctr.mk (lb := [some (.ref 1003), some (.int (nI A.length)), some (.int (nI (hl r).length)), some (.int (nI f.1.length)), some (.int (nI (na r))), none, none, none, none]) (by decide +kernel) (Nat.le_of_ble_eq_true rfl) rfl rfl ?_
  intro pp ee ss mm aa bb mt cd X hrt hlk hnm
  refine v_inv (fun hBB _ => ?_)
  have hab : ∀ i, ∀ x ∈ f.2.1.getD i [], isByte x := fun i => rw_byte hBB (r := 1018) (N := 16385) rfl (hC.1.1.arg i)
  have loop : ∀ (d i : Nat) (M1 : List Me) (u : mu_T), rs g u [21, 27, 28, 29] [1011, 1012, 1013, 1014, 1015] → RM u M1 → bnd M1 → cD M1 ≤ 300 → cB M1 ≤ 16384 → f.2.1.length ≤ i + d → i ≤ f.2.1.length → (f.2.1.drop i).foldl (tkO true) (mgP M1, cD M1, cB M1) = (f.2.1.foldl (tkO true) S.2.2.2.1) → Vv pp l ee (rmT 66 0 0) ss mm aa bb mt cd 9 q (MQ bb (Qw q (fun v w => v = none ∧ rs g w.2.2 [2, 3, 4, 8, 9, 10, 11, 13, 15, 20, 21, 27, 28, 29, 32, 33, 39, 40, 41, 42, 43, 44] [1007, 1008, 1010, 1011, 1012, 1013, 1014, 1015, 1016, 1017, 1020, 1021] ∧ AP w.2.2 fu (aX S f e.2))) aa ss 0 0 (fun a => q.1 ≤ a)) 140 [some (.ref 1003), some (.int (nI A.length)), some (.int (nI (hl r).length)), some (.int (nI f.1.length)), some (.int (nI (na r))), some (.int (nI f.2.1.length)), some (.int 1), some (.int (nI (i + 1))), none] [] (0, 0, u) := by
    intro d
    induction d with
    | zero =>
      intro i M1 u hs hMu hb1 hb2 hb3 hid hil hfo
      have hSu := hs.S hS
      refine v_iload X (dk D_Rf_act 42 rfl) rfl ?_
      refine v_iload X (dk D_Rf_act 43 rfl) rfl ?_
      refine v_icmp_gt (tgt := 228) X (dk D_Rf_act 44 rfl) (by decide) (fun _ => ?_) (fun c144 => absurd (nI_lt (by omega) (by omega)) c144)
      refine v_goto (tgt := 417) X (dk D_Rf_act 83 rfl) (by decide) ?_
      exact v_vret X hlk hrt (dk D_Rf_act 179 rfl) ⟨rfl, (hs.mono (by decide) (by decide)), by rw [haX]; exact AP_u (M := M1) hZ hV he hs hMu hb1 hb2 hb3 (by rw [← hfo, List.drop_eq_nil_of_le (by omega)]; rfl)⟩
    | succ d ih =>
      intro i M1 u hs hMu hb1 hb2 hb3 hid hil hfo
      have hSu := hs.S hS
      by_cases hilt : i < f.2.1.length
      · have hCu := hC.rs hs (by decide) (by decide) (by decide)
        have hle := ag_le (f := f) (r := r) i
        rw [drop_getL hilt, List.foldl_cons] at hfo
        have k222 : ∀ (i : Nat) (M1 : List Me) (u : mu_T), rs g u [21, 27, 28, 29] [1011, 1012, 1013, 1014, 1015] → RM u M1 → bnd M1 → cD M1 ≤ 300 → cB M1 ≤ 16384 → (i < f.2.1.length ∧ i + d + 1 ≥ f.2.1.length) → (f.2.1.drop (i + 1)).foldl (tkO true) (mgP M1, cD M1, cB M1) = (f.2.1.foldl (tkO true) S.2.2.2.1) → ∀ (t : Int32), Vv pp l ee (rmT 66 0 0) ss mm aa bb mt cd 9 q (MQ bb (Qw q (fun v w => v = none ∧ rs g w.2.2 [2, 3, 4, 8, 9, 10, 11, 13, 15, 20, 21, 27, 28, 29, 32, 33, 39, 40, 41, 42, 43, 44] [1007, 1008, 1010, 1011, 1012, 1013, 1014, 1015, 1016, 1017, 1020, 1021] ∧ AP w.2.2 fu (aX S f e.2))) aa ss 0 0 (fun a => q.1 ≤ a)) 222 [some (.ref 1003), some (.int (nI A.length)), some (.int (nI (hl r).length)), some (.int (nI f.1.length)), some (.int (nI (na r))), some (.int (nI f.2.1.length)), some (.int 1), some (.int (nI (i + 1))), some (.int t)] [] (0, 0, u) := by
          intro i M1 u hs hMu hb1 hb2 hb3 hi hfo t
          have hSu := hs.S hS
          refine v_iinc (v := nI (i + 1 + 1)) (lb := [some (.ref 1003), some (.int (nI A.length)), some (.int (nI (hl r).length)), some (.int (nI f.1.length)), some (.int (nI (na r))), some (.int (nI f.2.1.length)), some (.int 1), some (.int (nI (i + 1 + 1))), some (.int t)]) X (dk D_Rf_act 81 rfl) rfl (nI_1 _) (by decide) rfl ?_
          refine v_goto (tgt := 140) X (dk D_Rf_act 82 rfl) (by decide) ?_
          exact v_weak (la := [some (.ref 1003), some (.int (nI A.length)), some (.int (nI (hl r).length)), some (.int (nI f.1.length)), some (.int (nI (na r))), some (.int (nI f.2.1.length)), some (.int 1), some (.int (nI (i + 1 + 1))), none]) ⟨rfl, rfl, rfl, rfl, rfl, rfl, rfl, rfl, trivial⟩ <| ih (i + 1) M1 u hs hMu hb1 hb2 hb3 (by omega) (by omega) hfo
        have k173 : ∀ (n i : Nat) (M1 : List Me) (u : mu_T), rs g u [21, 27, 28, 29] [1011, 1012, 1013, 1014, 1015] → RM u M1 → bnd M1 → cD M1 ≤ 300 → cB M1 ≤ 16384 → M1.length ≤ n → (i < f.2.1.length ∧ i + d + 1 ≥ f.2.1.length) → (f.2.1.drop (i + 1)).foldl (tkO true) (tkO true (mgP M1, cD M1, cB M1) (f.2.1.getD i [])) = (f.2.1.foldl (tkO true) S.2.2.2.1) → ∀ (t : Int32), t = tpV M1 (f.2.1.getD i []) → Vv pp l ee (rmT 66 0 0) ss mm aa bb mt cd 9 q (MQ bb (Qw q (fun v w => v = none ∧ rs g w.2.2 [2, 3, 4, 8, 9, 10, 11, 13, 15, 20, 21, 27, 28, 29, 32, 33, 39, 40, 41, 42, 43, 44] [1007, 1008, 1010, 1011, 1012, 1013, 1014, 1015, 1016, 1017, 1020, 1021] ∧ AP w.2.2 fu (aX S f e.2))) aa ss 0 0 (fun a => q.1 ≤ a)) 173 [some (.ref 1003), some (.int (nI A.length)), some (.int (nI (hl r).length)), some (.int (nI f.1.length)), some (.int (nI (na r))), some (.int (nI f.2.1.length)), some (.int 1), some (.int (nI (i + 1))), some (.int t)] [] (0, 0, u) := by
          intro n
          induction n with
          | zero =>
            intro i M1 u hs hMu hb1 hb2 hb3 hn1 hi hfo t htt
            subst htt
            have hSu := hs.S hS
            have hle := ag_le (f := f) (r := r) i
            rcases tp_or M1 (f.2.1.getD i []) with ⟨hno1, ht⟩ | ⟨A1, e1, B1, hM1A, he1, hB1, ht⟩
            · have hno : (mgP M1, cD M1, cB M1).1 (f.2.1.getD i []) = [] := mgP_no hno1
              refine v_iload X (dk D_Rf_act 58 rfl) rfl ?_
              refine v_if_lt (tgt := 222) X (dk D_Rf_act 59 rfl) (by decide) (fun _ => ?_) (fun c175 => absurd (by rw [ht]; decide) c175)
              exact k222 i M1 u hs hMu hb1 hb2 hb3 hi (by rw [← hfo, tkO_no hno]) _
            · rw [hM1A, List.length_append, List.length_cons] at hn1; omega
          | succ n ihn =>
            intro i M1 u hs hMu hb1 hb2 hb3 hn1 hi hfo t htt
            subst htt
            have hSu := hs.S hS
            have hle := ag_le (f := f) (r := r) i
            rcases tp_or M1 (f.2.1.getD i []) with ⟨hno1, ht⟩ | ⟨A1, e1, B1, hM1A, he1, hB1, ht⟩
            · have hno : (mgP M1, cD M1, cB M1).1 (f.2.1.getD i []) = [] := mgP_no hno1
              refine v_iload X (dk D_Rf_act 58 rfl) rfl ?_
              refine v_if_lt (tgt := 222) X (dk D_Rf_act 59 rfl) (by decide) (fun _ => ?_) (fun c175 => absurd (by rw [ht]; decide) c175)
              exact k222 i M1 u hs hMu hb1 hb2 hb3 hi (by rw [← hfo, tkO_no hno]) _
            · have hA1 : A1.length < 317 := by have := hMu.2.2.2.2.2.2.1; rw [hM1A, List.length_append, List.length_cons] at this; omega
              refine v_iload X (dk D_Rf_act 58 rfl) rfl ?_
              refine v_if_lt (tgt := 222) X (dk D_Rf_act 59 rfl) (by decide) (fun c175 => absurd c175 (by rw [ht]; exact nI_pos (by omega))) (fun _ => ?_)
              refine v_aload_n X (dk D_Rf_act 60 rfl) rfl ?_
              refine v_iload X (dk D_Rf_act 61 rfl) rfl ?_
              rw [ht]
              refine v_invV (As := [.int (nI A1.length)]) (st := []) X (r_forget l q hSu (show RM u (A1 ++ e1 :: B1) from hM1A ▸ hMu)) (dk D_Rf_act 62 rfl) G_Rf_290 K_Rf_forget V_Rf_forget rfl rfl (hSu.lt (by decide)) rfl rfl (Nat.le_of_ble_eq_true rfl) (Nat.le_of_ble_eq_true rfl) (Nat.le_of_ble_eq_true rfl) (Nat.le_of_ble_eq_true rfl) (Nat.le_of_ble_eq_true rfl) ?_
              rintro v w1 ⟨rfl, a1, a2⟩
              have hsw := hs.tr a1
              have hSw := hsw.S hS
              have hCw := hC.rs hsw (by decide) (by decide) (by decide)
              show Vv _ _ _ _ _ _ _ _ _ _ _ _ _ _ _ [] (0, 0, w1.2.2)
              refine v_iload X (dk D_Rf_act 63 rfl) rfl ?_
              refine v_if_eq (tgt := 216) X (dk D_Rf_act 64 rfl) (by decide) (fun c186 => absurd c186 (by decide)) (fun _ => ?_)
              refine v_aload_n X (dk D_Rf_act 65 rfl) rfl ?_
              refine v_aload_n X (dk D_Rf_act 66 rfl) rfl ?_
              refine v_getF X (dk D_Rf_act 67 rfl) F_Rf_56 rfl rfl (hSw.lt (by decide)) (hSw.2 1003 35) ?_
              refine v_aload_n X (dk D_Rf_act 68 rfl) rfl ?_
              refine v_iload X (dk D_Rf_act 69 rfl) rfl ?_
              refine v_iload X (dk D_Rf_act 70 rfl) rfl ?_
              refine v_invV (As := [.int (nI (na r)), .int (nI (i + 1))]) (st := [.ref 1018, .ref 1003]) X (r_argumentAt l q (i := i) hSw hCw (by omega)) (dk D_Rf_act 71 rfl) G_Rf_268 K_Rf_argumentAt V_Rf_argumentAt rfl rfl (hSw.lt (by decide)) rfl rfl (Nat.le_of_ble_eq_true rfl) (Nat.le_of_ble_eq_true rfl) (Nat.le_of_ble_eq_true rfl) (Nat.le_of_ble_eq_true rfl) (Nat.le_of_ble_eq_true rfl) ?_
              rintro v ws ⟨rfl, hws⟩
              rw [hws]
              show Vv _ _ _ _ _ _ _ _ _ _ _ _ _ _ _ [.int (nI (stA f r i)), .ref 1018, .ref 1003] (0, 0, w1.2.2)
              refine v_aload_n X (dk D_Rf_act 72 rfl) rfl ?_
              refine v_iload X (dk D_Rf_act 73 rfl) rfl ?_
              refine v_iload X (dk D_Rf_act 74 rfl) rfl ?_
              refine v_invV (As := [.int (nI (na r)), .int (nI (i + 1))]) (st := [.int (nI (stA f r i)), .ref 1018, .ref 1003]) X (r_argumentSize l q (i := i) hSw hCw (by omega)) (dk D_Rf_act 75 rfl) G_Rf_272 K_Rf_argumentSize V_Rf_argumentSize rfl rfl (hSw.lt (by decide)) rfl rfl (Nat.le_of_ble_eq_true rfl) (Nat.le_of_ble_eq_true rfl) (Nat.le_of_ble_eq_true rfl) (Nat.le_of_ble_eq_true rfl) (Nat.le_of_ble_eq_true rfl) ?_
              rintro v ws ⟨rfl, hws⟩
              rw [hws]
              show Vv _ _ _ _ _ _ _ _ _ _ _ _ _ _ _ [.int (nI (f.2.1.getD i []).length), .int (nI (stA f r i)), .ref 1018, .ref 1003] (0, 0, w1.2.2)
              refine v_invV (As := [.ref 1018, .int (nI (stA f r i)), .int (nI (f.2.1.getD i []).length)]) (st := []) X (r_top l q (r := 1018) (N := 16385) (p := stA f r i) (ys := (f.2.1.getD i [])) hSw a2 rfl (hSw.lt (by decide)) (by decide) (by omega) (hCw.1.1.arg i)) (dk D_Rf_act 76 rfl) G_Rf_232 K_Rf_top V_Rf_top rfl rfl (hSw.lt (by decide)) rfl rfl (Nat.le_of_ble_eq_true rfl) (Nat.le_of_ble_eq_true rfl) (Nat.le_of_ble_eq_true rfl) (Nat.le_of_ble_eq_true rfl) (Nat.le_of_ble_eq_true rfl) ?_
              rintro v w2 ⟨rfl, hw⟩
              rw [hw]
              show Vv _ _ _ _ _ _ _ _ _ _ _ _ _ _ _ [.int (tpV (A1 ++ B1) (f.2.1.getD i []))] (0, 0, w1.2.2)
              refine v_goto (tgt := 217) X (dk D_Rf_act 77 rfl) (by decide) ?_
              refine v_istore (lb := [some (.ref 1003), some (.int (nI A.length)), some (.int (nI (hl r).length)), some (.int (nI f.1.length)), some (.int (nI (na r))), some (.int (nI f.2.1.length)), some (.int 1), some (.int (nI (i + 1))), some (.int (tpV (A1 ++ B1) (f.2.1.getD i [])))]) X (dk D_Rf_act 79 rfl) (by decide) rfl ?_
              refine v_goto (tgt := 173) X (dk D_Rf_act 80 rfl) (by decide) ?_
              exact ihn i (A1 ++ B1) w1.2.2 hsw a2 (bnd_del (hM1A ▸ hb1)) (by rw [hM1A, cD_app, cD] at hb2; rw [cD_app]; omega) (by rw [hM1A, cB_app, cB] at hb3; rw [cB_app]; omega) (by rw [hM1A, List.length_append, List.length_cons] at hn1; rw [List.length_append]; omega) hi (by rw [mgP_fgt he1 hB1, ← hM1A]; rw [tkO_st (x := e1.2) (L := mgP A1 (f.2.1.getD i [])) (by rw [hM1A]; exact mgP_top he1 hB1)] at hfo; exact hfo) _ rfl
        replace hilt : i < f.2.1.length ∧ i + d + 1 ≥ f.2.1.length := ⟨hilt, by omega⟩
        refine v_iload X (dk D_Rf_act 42 rfl) rfl ?_
        refine v_iload X (dk D_Rf_act 43 rfl) rfl ?_
        refine v_icmp_gt (tgt := 228) X (dk D_Rf_act 44 rfl) (by decide) (fun c144 => absurd c144 (fun z => absurd ((nI_ltI (by omega) (by omega)).mp z) (by omega))) (fun _ => ?_)
        refine v_aload_n X (dk D_Rf_act 45 rfl) rfl ?_
        refine v_aload_n X (dk D_Rf_act 46 rfl) rfl ?_
        refine v_getF X (dk D_Rf_act 47 rfl) F_Rf_56 rfl rfl (hSu.lt (by decide)) (hSu.2 1003 35) ?_
        refine v_aload_n X (dk D_Rf_act 48 rfl) rfl ?_
        refine v_iload X (dk D_Rf_act 49 rfl) rfl ?_
        refine v_iload X (dk D_Rf_act 50 rfl) rfl ?_
        refine v_invV (As := [.int (nI (na r)), .int (nI (i + 1))]) (st := [.ref 1018, .ref 1003]) X (r_argumentAt l q (i := i) hSu hCu (by omega)) (dk D_Rf_act 51 rfl) G_Rf_268 K_Rf_argumentAt V_Rf_argumentAt rfl rfl (hSu.lt (by decide)) rfl rfl (Nat.le_of_ble_eq_true rfl) (Nat.le_of_ble_eq_true rfl) (Nat.le_of_ble_eq_true rfl) (Nat.le_of_ble_eq_true rfl) (Nat.le_of_ble_eq_true rfl) ?_
        rintro v ws ⟨rfl, hws⟩
        rw [hws]
        show Vv _ _ _ _ _ _ _ _ _ _ _ _ _ _ _ [.int (nI (stA f r i)), .ref 1018, .ref 1003] (0, 0, u)
        refine v_aload_n X (dk D_Rf_act 52 rfl) rfl ?_
        refine v_iload X (dk D_Rf_act 53 rfl) rfl ?_
        refine v_iload X (dk D_Rf_act 54 rfl) rfl ?_
        refine v_invV (As := [.int (nI (na r)), .int (nI (i + 1))]) (st := [.int (nI (stA f r i)), .ref 1018, .ref 1003]) X (r_argumentSize l q (i := i) hSu hCu (by omega)) (dk D_Rf_act 55 rfl) G_Rf_272 K_Rf_argumentSize V_Rf_argumentSize rfl rfl (hSu.lt (by decide)) rfl rfl (Nat.le_of_ble_eq_true rfl) (Nat.le_of_ble_eq_true rfl) (Nat.le_of_ble_eq_true rfl) (Nat.le_of_ble_eq_true rfl) (Nat.le_of_ble_eq_true rfl) ?_
        rintro v ws ⟨rfl, hws⟩
        rw [hws]
        show Vv _ _ _ _ _ _ _ _ _ _ _ _ _ _ _ [.int (nI (f.2.1.getD i []).length), .int (nI (stA f r i)), .ref 1018, .ref 1003] (0, 0, u)
        refine v_invV (As := [.ref 1018, .int (nI (stA f r i)), .int (nI (f.2.1.getD i []).length)]) (st := []) X (r_top l q (r := 1018) (N := 16385) (p := stA f r i) (ys := (f.2.1.getD i [])) hSu hMu rfl (hSu.lt (by decide)) (by decide) (by omega) (hCu.1.1.arg i)) (dk D_Rf_act 56 rfl) G_Rf_232 K_Rf_top V_Rf_top rfl rfl (hSu.lt (by decide)) rfl rfl (Nat.le_of_ble_eq_true rfl) (Nat.le_of_ble_eq_true rfl) (Nat.le_of_ble_eq_true rfl) (Nat.le_of_ble_eq_true rfl) (Nat.le_of_ble_eq_true rfl) ?_
        rintro v w1 ⟨rfl, hw⟩
        rw [hw]
        show Vv _ _ _ _ _ _ _ _ _ _ _ _ _ _ _ [.int (tpV M1 (f.2.1.getD i []))] (0, 0, u)
        refine v_istore (lb := [some (.ref 1003), some (.int (nI A.length)), some (.int (nI (hl r).length)), some (.int (nI f.1.length)), some (.int (nI (na r))), some (.int (nI f.2.1.length)), some (.int 1), some (.int (nI (i + 1))), some (.int (tpV M1 (f.2.1.getD i [])))]) X (dk D_Rf_act 57 rfl) (by decide) rfl ?_
        exact k173 M1.length i M1 u hs hMu hb1 hb2 hb3 (Nat.le_refl _) hilt hfo _ rfl
      · skip
        refine v_iload X (dk D_Rf_act 42 rfl) rfl ?_
        refine v_iload X (dk D_Rf_act 43 rfl) rfl ?_
        refine v_icmp_gt (tgt := 228) X (dk D_Rf_act 44 rfl) (by decide) (fun _ => ?_) (fun c144 => absurd (nI_lt (by omega) (by omega)) c144)
        refine v_goto (tgt := 417) X (dk D_Rf_act 83 rfl) (by decide) ?_
        exact v_vret X hlk hrt (dk D_Rf_act 179 rfl) ⟨rfl, (hs.mono (by decide) (by decide)), by rw [haX]; exact AP_u (M := M1) hZ hV he hs hMu hb1 hb2 hb3 (by rw [← hfo, List.drop_eq_nil_of_le (by omega)]; rfl)⟩
  refine v_aload_n X (dk D_Rf_act 0 rfl) rfl ?_
  refine v_getI X (dk D_Rf_act 1 rfl) F_Rf_243 rfl rfl (hS.lt (by decide)) ?_
  rw [hC.1.2.1, show na (f :: r) = na r + f.2.1.length from rfl]
  refine v_iload X (dk D_Rf_act 2 rfl) rfl ?_
  refine v_isub X (dk D_Rf_act 3 rfl) ?_
  rw [show nI (na r + f.2.1.length) - nI (na r) = nI f.2.1.length from by rw [pk_sub (by omega), Nat.add_sub_cancel_left]]
  refine v_istore (lb := [some (.ref 1003), some (.int (nI A.length)), some (.int (nI (hl r).length)), some (.int (nI f.1.length)), some (.int (nI (na r))), some (.int (nI f.2.1.length)), none, none, none]) X (dk D_Rf_act 4 rfl) (by decide) rfl ?_
  refine v_aload_n X (dk D_Rf_act 5 rfl) rfl ?_
  refine v_getF X (dk D_Rf_act 6 rfl) F_Rf_43 rfl rfl (hS.lt (by decide)) (hS.2 1003 25) ?_
  refine v_iload_n X (dk D_Rf_act 7 rfl) rfl ?_
  refine v_iald X (dk D_Rf_act 8 rfl) rfl (hS.lt (by decide)) (vp_in_nI (show A.length < 340 by omega) (by decide)) ?_
  rw [nI_clamp (by omega), hat.2.2.2, hj]
  rw [show nI (bN (some (1048576 + 2))) = 3 from rfl]
  refine v_tableIn (tgt := 120) X (dk D_Rf_act 9 rfl) (by decide) (by decide) rfl (by decide) ?_
  refine v_aload_n X (dk D_Rf_act 30 rfl) rfl ?_
  refine v_getF X (dk D_Rf_act 31 rfl) F_Rf_43 rfl rfl (hS.lt (by decide)) (hS.2 1003 25) ?_
  refine v_iload_n X (dk D_Rf_act 32 rfl) rfl ?_
  refine v_iald X (dk D_Rf_act 33 rfl) rfl (hS.lt (by decide)) (vp_in_nI (show A.length < 340 by omega) (by decide)) ?_
  rw [nI_clamp (by omega), hat.2.2.2, hj]
  rw [show nI (bN (some (1048576 + 2))) = 3 from rfl]
  refine v_iconst (v := 3) X (dk D_Rf_act 34 rfl) (by decide) ?_
  refine v_icmp_ne (tgt := 134) X (dk D_Rf_act 35 rfl) (by decide) (fun c127 => absurd rfl c127) (fun _ => ?_)
  refine v_iconst (v := 1) X (dk D_Rf_act 36 rfl) (by decide) ?_
  refine v_goto (tgt := 135) X (dk D_Rf_act 37 rfl) (by decide) ?_
  refine v_istore (lb := [some (.ref 1003), some (.int (nI A.length)), some (.int (nI (hl r).length)), some (.int (nI f.1.length)), some (.int (nI (na r))), some (.int (nI f.2.1.length)), some (.int 1), none, none]) X (dk D_Rf_act 39 rfl) (by decide) rfl ?_
  refine v_iconst (v := nI (0 + 1)) X (dk D_Rf_act 40 rfl) (by decide) ?_
  refine v_istore (lb := [some (.ref 1003), some (.int (nI A.length)), some (.int (nI (hl r).length)), some (.int (nI f.1.length)), some (.int (nI (na r))), some (.int (nI f.2.1.length)), some (.int 1), some (.int (nI (0 + 1))), none]) X (dk D_Rf_act 41 rfl) (by decide) rfl ?_
  exact loop f.2.1.length 0 M g (rs.rf g _ _) hM hbd (by rw [hSe] at hdf; exact hdf) (by rw [hSe] at hdb; exact hdb) (by omega) (Nat.zero_le _) (by rw [hSe]; rfl)
set_option maxHeartbeats 4000000 in
set_option maxRecDepth 100000 in
theorem r_act_3 (l : Launch) (q : ev_T) {fu : Nat} {f : Fr} {r : List Fr} {S : Mst} {M A B : List Me} {e : Me} {g : mu_T} (hZ : RZ g fu S) (he : gI g 1003 2 = 0) (hV : GV g []) (hC : AC g f r) (hM : RM g M) (hbd : bnd M) (hdf : S.2.2.2.1.2.1 ≤ 300) (hdb : S.2.2.2.1.2.2 ≤ 16384) (hSe : S.2.2.2.1 = (mgP M, cD M, cB M)) (hMA : M = A ++ e :: B) (he2 : e.2.1 = some (1048576 + 3)) : Ctr l q M_Rf_act 66 [.ref 1003, .int (nI A.length), .int (nI (hl r).length), .int (nI f.1.length), .int (nI (na r))] (0, 0, g) (fun v w => v = none ∧ rs g w.2.2 [2, 3, 4, 8, 9, 10, 11, 13, 15, 20, 21, 27, 28, 29, 32, 33, 39, 40, 41, 42, 43, 44] [1007, 1008, 1010, 1011, 1012, 1013, 1014, 1015, 1016, 1017, 1020, 1021] ∧ AP w.2.2 fu (aX S f e.2)) := by
  have hS := hZ.1
  have hI := hZ.2.1
  have hQ := hZ.2.2.1
  have hby := hZ.2.2.2.1
  have hP := hZ.2.2.2.2.1
  have hD := hZ.2.2.2.2.2
  have hG := GE_nil hI he hV
  have hat := (show RM g (A ++ e :: B) from hMA ▸ hM).at.1
  have hAl : A.length < 317 := by have := hM.2.2.2.2.2.2.1; rw [hMA, List.length_append, List.length_cons] at this; omega
  have hem : e ∈ M := by rw [hMA]; exact List.mem_append_right _ (List.mem_cons_self ..)
  have h16 := hC.1.1.2.2
  have hna : na r + f.2.1.length ≤ 8192 := hC.1.2.2.1
  have hj := he2
  have haX : aX S f e.2 = bI 3 S f := by rw [show e.2 = (some (1048576 + 3), e.2.2) from by rw [← he2], aX, Nat.add_sub_cancel_left]
  refine Ctr.mk (lb := [some (.ref 1003), some (.int (nI A.length)), some (.int (nI (hl r).length)), some (.int (nI f.1.length)), some (.int (nI (na r))), none, none, none, none]) (by decide +kernel) (Nat.le_of_ble_eq_true rfl) rfl rfl ?_
  intro pp ee ss mm aa bb mt cd X hrt hlk hnm
  refine v_inv (fun hBB _ => ?_)
  have hab : ∀ i, ∀ x ∈ f.2.1.getD i [], isByte x := fun i => rw_byte hBB (r := 1018) (N := 16385) rfl (hC.1.1.arg i)
  have loop : ∀ (d i : Nat) (M1 : List Me) (u : mu_T), rs g u [21, 27, 28, 29] [1011, 1012, 1013, 1014, 1015] → RM u M1 → bnd M1 → cD M1 ≤ 300 → cB M1 ≤ 16384 → f.2.1.length ≤ i + d → i ≤ f.2.1.length → (f.2.1.drop i).foldl (tkO false) (mgP M1, cD M1, cB M1) = (f.2.1.foldl (tkO false) S.2.2.2.1) → Vv pp l ee (rmT 66 0 0) ss mm aa bb mt cd 9 q (MQ bb (Qw q (fun v w => v = none ∧ rs g w.2.2 [2, 3, 4, 8, 9, 10, 11, 13, 15, 20, 21, 27, 28, 29, 32, 33, 39, 40, 41, 42, 43, 44] [1007, 1008, 1010, 1011, 1012, 1013, 1014, 1015, 1016, 1017, 1020, 1021] ∧ AP w.2.2 fu (aX S f e.2))) aa ss 0 0 (fun a => q.1 ≤ a)) 140 [some (.ref 1003), some (.int (nI A.length)), some (.int (nI (hl r).length)), some (.int (nI f.1.length)), some (.int (nI (na r))), some (.int (nI f.2.1.length)), some (.int 0), some (.int (nI (i + 1))), none] [] (0, 0, u) := by
    intro d
    induction d with
    | zero =>
      intro i M1 u hs hMu hb1 hb2 hb3 hid hil hfo
      have hSu := hs.S hS
      refine v_iload X (dk D_Rf_act 42 rfl) rfl ?_
      refine v_iload X (dk D_Rf_act 43 rfl) rfl ?_
      refine v_icmp_gt (tgt := 228) X (dk D_Rf_act 44 rfl) (by decide) (fun _ => ?_) (fun c144 => absurd (nI_lt (by omega) (by omega)) c144)
      refine v_goto (tgt := 417) X (dk D_Rf_act 83 rfl) (by decide) ?_
      exact v_vret X hlk hrt (dk D_Rf_act 179 rfl) ⟨rfl, (hs.mono (by decide) (by decide)), by rw [haX]; exact AP_u (M := M1) hZ hV he hs hMu hb1 hb2 hb3 (by rw [← hfo, List.drop_eq_nil_of_le (by omega)]; rfl)⟩
    | succ d ih =>
      intro i M1 u hs hMu hb1 hb2 hb3 hid hil hfo
      have hSu := hs.S hS
      by_cases hilt : i < f.2.1.length
      · have hCu := hC.rs hs (by decide) (by decide) (by decide)
        have hle := ag_le (f := f) (r := r) i
        rw [drop_getL hilt, List.foldl_cons] at hfo
        have k222 : ∀ (i : Nat) (M1 : List Me) (u : mu_T), rs g u [21, 27, 28, 29] [1011, 1012, 1013, 1014, 1015] → RM u M1 → bnd M1 → cD M1 ≤ 300 → cB M1 ≤ 16384 → (i < f.2.1.length ∧ i + d + 1 ≥ f.2.1.length) → (f.2.1.drop (i + 1)).foldl (tkO false) (mgP M1, cD M1, cB M1) = (f.2.1.foldl (tkO false) S.2.2.2.1) → ∀ (t : Int32), Vv pp l ee (rmT 66 0 0) ss mm aa bb mt cd 9 q (MQ bb (Qw q (fun v w => v = none ∧ rs g w.2.2 [2, 3, 4, 8, 9, 10, 11, 13, 15, 20, 21, 27, 28, 29, 32, 33, 39, 40, 41, 42, 43, 44] [1007, 1008, 1010, 1011, 1012, 1013, 1014, 1015, 1016, 1017, 1020, 1021] ∧ AP w.2.2 fu (aX S f e.2))) aa ss 0 0 (fun a => q.1 ≤ a)) 222 [some (.ref 1003), some (.int (nI A.length)), some (.int (nI (hl r).length)), some (.int (nI f.1.length)), some (.int (nI (na r))), some (.int (nI f.2.1.length)), some (.int 0), some (.int (nI (i + 1))), some (.int t)] [] (0, 0, u) := by
          intro i M1 u hs hMu hb1 hb2 hb3 hi hfo t
          have hSu := hs.S hS
          refine v_iinc (v := nI (i + 1 + 1)) (lb := [some (.ref 1003), some (.int (nI A.length)), some (.int (nI (hl r).length)), some (.int (nI f.1.length)), some (.int (nI (na r))), some (.int (nI f.2.1.length)), some (.int 0), some (.int (nI (i + 1 + 1))), some (.int t)]) X (dk D_Rf_act 81 rfl) rfl (nI_1 _) (by decide) rfl ?_
          refine v_goto (tgt := 140) X (dk D_Rf_act 82 rfl) (by decide) ?_
          exact v_weak (la := [some (.ref 1003), some (.int (nI A.length)), some (.int (nI (hl r).length)), some (.int (nI f.1.length)), some (.int (nI (na r))), some (.int (nI f.2.1.length)), some (.int 0), some (.int (nI (i + 1 + 1))), none]) ⟨rfl, rfl, rfl, rfl, rfl, rfl, rfl, rfl, trivial⟩ <| ih (i + 1) M1 u hs hMu hb1 hb2 hb3 (by omega) (by omega) hfo
        have k173 : ∀ (i : Nat) (M1 : List Me) (u : mu_T), rs g u [21, 27, 28, 29] [1011, 1012, 1013, 1014, 1015] → RM u M1 → bnd M1 → cD M1 ≤ 300 → cB M1 ≤ 16384 → (i < f.2.1.length ∧ i + d + 1 ≥ f.2.1.length) → (f.2.1.drop (i + 1)).foldl (tkO false) (mgP M1, cD M1, cB M1) = (f.2.1.foldl (tkO false) S.2.2.2.1) → Vv pp l ee (rmT 66 0 0) ss mm aa bb mt cd 9 q (MQ bb (Qw q (fun v w => v = none ∧ rs g w.2.2 [2, 3, 4, 8, 9, 10, 11, 13, 15, 20, 21, 27, 28, 29, 32, 33, 39, 40, 41, 42, 43, 44] [1007, 1008, 1010, 1011, 1012, 1013, 1014, 1015, 1016, 1017, 1020, 1021] ∧ AP w.2.2 fu (aX S f e.2))) aa ss 0 0 (fun a => q.1 ≤ a)) 173 [some (.ref 1003), some (.int (nI A.length)), some (.int (nI (hl r).length)), some (.int (nI f.1.length)), some (.int (nI (na r))), some (.int (nI f.2.1.length)), some (.int 0), some (.int (nI (i + 1))), some (.int (-1))] [] (0, 0, u) := by
          intro i M1 u hs hMu hb1 hb2 hb3 hi hfo
          have hSu := hs.S hS
          refine v_iload X (dk D_Rf_act 58 rfl) rfl ?_
          refine v_if_lt (tgt := 222) X (dk D_Rf_act 59 rfl) (by decide) (fun _ => ?_) (fun c175 => absurd (by decide) c175)
          exact k222 i M1 u hs hMu hb1 hb2 hb3 hi hfo _
        have k173s : ∀ (i : Nat) (M1 : List Me) (u : mu_T), rs g u [21, 27, 28, 29] [1011, 1012, 1013, 1014, 1015] → RM u M1 → bnd M1 → cD M1 ≤ 300 → cB M1 ≤ 16384 → (i < f.2.1.length ∧ i + d + 1 ≥ f.2.1.length) → (f.2.1.drop (i + 1)).foldl (tkO false) (tkO false (mgP M1, cD M1, cB M1) (f.2.1.getD i [])) = (f.2.1.foldl (tkO false) S.2.2.2.1) → Vv pp l ee (rmT 66 0 0) ss mm aa bb mt cd 9 q (MQ bb (Qw q (fun v w => v = none ∧ rs g w.2.2 [2, 3, 4, 8, 9, 10, 11, 13, 15, 20, 21, 27, 28, 29, 32, 33, 39, 40, 41, 42, 43, 44] [1007, 1008, 1010, 1011, 1012, 1013, 1014, 1015, 1016, 1017, 1020, 1021] ∧ AP w.2.2 fu (aX S f e.2))) aa ss 0 0 (fun a => q.1 ≤ a)) 173 [some (.ref 1003), some (.int (nI A.length)), some (.int (nI (hl r).length)), some (.int (nI f.1.length)), some (.int (nI (na r))), some (.int (nI f.2.1.length)), some (.int 0), some (.int (nI (i + 1))), some (.int (tpV M1 (f.2.1.getD i [])))] [] (0, 0, u) := by
            intro i M1 u hs hMu hb1 hb2 hb3 hi hfo
            have hSu := hs.S hS
            have hle := ag_le (f := f) (r := r) i
            rcases tp_or M1 (f.2.1.getD i []) with ⟨hno1, ht⟩ | ⟨A1, e1, B1, hM1A, he1, hB1, ht⟩
            · have hno : (mgP M1, cD M1, cB M1).1 (f.2.1.getD i []) = [] := mgP_no hno1
              refine v_iload X (dk D_Rf_act 58 rfl) rfl ?_
              refine v_if_lt (tgt := 222) X (dk D_Rf_act 59 rfl) (by decide) (fun _ => ?_) (fun c175 => absurd (by rw [ht]; decide) c175)
              exact k222 i M1 u hs hMu hb1 hb2 hb3 hi (by rw [← hfo, tkO_no hno]) _
            · have hA1 : A1.length < 317 := by have := hMu.2.2.2.2.2.2.1; rw [hM1A, List.length_append, List.length_cons] at this; omega
              refine v_iload X (dk D_Rf_act 58 rfl) rfl ?_
              refine v_if_lt (tgt := 222) X (dk D_Rf_act 59 rfl) (by decide) (fun c175 => absurd c175 (by rw [ht]; exact nI_pos (by omega))) (fun _ => ?_)
              refine v_aload_n X (dk D_Rf_act 60 rfl) rfl ?_
              refine v_iload X (dk D_Rf_act 61 rfl) rfl ?_
              rw [ht]
              refine v_invV (As := [.int (nI A1.length)]) (st := []) X (r_forget l q hSu (show RM u (A1 ++ e1 :: B1) from hM1A ▸ hMu)) (dk D_Rf_act 62 rfl) G_Rf_290 K_Rf_forget V_Rf_forget rfl rfl (hSu.lt (by decide)) rfl rfl (Nat.le_of_ble_eq_true rfl) (Nat.le_of_ble_eq_true rfl) (Nat.le_of_ble_eq_true rfl) (Nat.le_of_ble_eq_true rfl) (Nat.le_of_ble_eq_true rfl) ?_
              rintro v w1 ⟨rfl, a1, a2⟩
              have hsw := hs.tr a1
              have hSw := hsw.S hS
              have hCw := hC.rs hsw (by decide) (by decide) (by decide)
              show Vv _ _ _ _ _ _ _ _ _ _ _ _ _ _ _ [] (0, 0, w1.2.2)
              refine v_iload X (dk D_Rf_act 63 rfl) rfl ?_
              refine v_if_eq (tgt := 216) X (dk D_Rf_act 64 rfl) (by decide) (fun _ => ?_) (fun c186 => absurd rfl c186)
              refine v_iconst (v := -1) X (dk D_Rf_act 78 rfl) (by decide) ?_
              refine v_istore (lb := [some (.ref 1003), some (.int (nI A.length)), some (.int (nI (hl r).length)), some (.int (nI f.1.length)), some (.int (nI (na r))), some (.int (nI f.2.1.length)), some (.int 0), some (.int (nI (i + 1))), some (.int (-1))]) X (dk D_Rf_act 79 rfl) (by decide) rfl ?_
              refine v_goto (tgt := 173) X (dk D_Rf_act 80 rfl) (by decide) ?_
              exact k173 i (A1 ++ B1) w1.2.2 hsw a2 (bnd_del (hM1A ▸ hb1)) (by rw [hM1A, cD_app, cD] at hb2; rw [cD_app]; omega) (by rw [hM1A, cB_app, cB] at hb3; rw [cB_app]; omega) hi (by rw [mgP_fgt he1 hB1, ← hM1A]; exact hfo)
        replace hilt : i < f.2.1.length ∧ i + d + 1 ≥ f.2.1.length := ⟨hilt, by omega⟩
        refine v_iload X (dk D_Rf_act 42 rfl) rfl ?_
        refine v_iload X (dk D_Rf_act 43 rfl) rfl ?_
        refine v_icmp_gt (tgt := 228) X (dk D_Rf_act 44 rfl) (by decide) (fun c144 => absurd c144 (fun z => absurd ((nI_ltI (by omega) (by omega)).mp z) (by omega))) (fun _ => ?_)
        refine v_aload_n X (dk D_Rf_act 45 rfl) rfl ?_
        refine v_aload_n X (dk D_Rf_act 46 rfl) rfl ?_
        refine v_getF X (dk D_Rf_act 47 rfl) F_Rf_56 rfl rfl (hSu.lt (by decide)) (hSu.2 1003 35) ?_
        refine v_aload_n X (dk D_Rf_act 48 rfl) rfl ?_
        refine v_iload X (dk D_Rf_act 49 rfl) rfl ?_
        refine v_iload X (dk D_Rf_act 50 rfl) rfl ?_
        refine v_invV (As := [.int (nI (na r)), .int (nI (i + 1))]) (st := [.ref 1018, .ref 1003]) X (r_argumentAt l q (i := i) hSu hCu (by omega)) (dk D_Rf_act 51 rfl) G_Rf_268 K_Rf_argumentAt V_Rf_argumentAt rfl rfl (hSu.lt (by decide)) rfl rfl (Nat.le_of_ble_eq_true rfl) (Nat.le_of_ble_eq_true rfl) (Nat.le_of_ble_eq_true rfl) (Nat.le_of_ble_eq_true rfl) (Nat.le_of_ble_eq_true rfl) ?_
        rintro v ws ⟨rfl, hws⟩
        rw [hws]
        show Vv _ _ _ _ _ _ _ _ _ _ _ _ _ _ _ [.int (nI (stA f r i)), .ref 1018, .ref 1003] (0, 0, u)
        refine v_aload_n X (dk D_Rf_act 52 rfl) rfl ?_
        refine v_iload X (dk D_Rf_act 53 rfl) rfl ?_
        refine v_iload X (dk D_Rf_act 54 rfl) rfl ?_
        refine v_invV (As := [.int (nI (na r)), .int (nI (i + 1))]) (st := [.int (nI (stA f r i)), .ref 1018, .ref 1003]) X (r_argumentSize l q (i := i) hSu hCu (by omega)) (dk D_Rf_act 55 rfl) G_Rf_272 K_Rf_argumentSize V_Rf_argumentSize rfl rfl (hSu.lt (by decide)) rfl rfl (Nat.le_of_ble_eq_true rfl) (Nat.le_of_ble_eq_true rfl) (Nat.le_of_ble_eq_true rfl) (Nat.le_of_ble_eq_true rfl) (Nat.le_of_ble_eq_true rfl) ?_
        rintro v ws ⟨rfl, hws⟩
        rw [hws]
        show Vv _ _ _ _ _ _ _ _ _ _ _ _ _ _ _ [.int (nI (f.2.1.getD i []).length), .int (nI (stA f r i)), .ref 1018, .ref 1003] (0, 0, u)
        refine v_invV (As := [.ref 1018, .int (nI (stA f r i)), .int (nI (f.2.1.getD i []).length)]) (st := []) X (r_top l q (r := 1018) (N := 16385) (p := stA f r i) (ys := (f.2.1.getD i [])) hSu hMu rfl (hSu.lt (by decide)) (by decide) (by omega) (hCu.1.1.arg i)) (dk D_Rf_act 56 rfl) G_Rf_232 K_Rf_top V_Rf_top rfl rfl (hSu.lt (by decide)) rfl rfl (Nat.le_of_ble_eq_true rfl) (Nat.le_of_ble_eq_true rfl) (Nat.le_of_ble_eq_true rfl) (Nat.le_of_ble_eq_true rfl) (Nat.le_of_ble_eq_true rfl) ?_
        rintro v w1 ⟨rfl, hw⟩
        rw [hw]
        show Vv _ _ _ _ _ _ _ _ _ _ _ _ _ _ _ [.int (tpV M1 (f.2.1.getD i []))] (0, 0, u)
        refine v_istore (lb := [some (.ref 1003), some (.int (nI A.length)), some (.int (nI (hl r).length)), some (.int (nI f.1.length)), some (.int (nI (na r))), some (.int (nI f.2.1.length)), some (.int 0), some (.int (nI (i + 1))), some (.int (tpV M1 (f.2.1.getD i [])))]) X (dk D_Rf_act 57 rfl) (by decide) rfl ?_
        exact k173s i M1 u hs hMu hb1 hb2 hb3 hilt hfo
      · skip
        refine v_iload X (dk D_Rf_act 42 rfl) rfl ?_
        refine v_iload X (dk D_Rf_act 43 rfl) rfl ?_
        refine v_icmp_gt (tgt := 228) X (dk D_Rf_act 44 rfl) (by decide) (fun _ => ?_) (fun c144 => absurd (nI_lt (by omega) (by omega)) c144)
        refine v_goto (tgt := 417) X (dk D_Rf_act 83 rfl) (by decide) ?_
        exact v_vret X hlk hrt (dk D_Rf_act 179 rfl) ⟨rfl, (hs.mono (by decide) (by decide)), by rw [haX]; exact AP_u (M := M1) hZ hV he hs hMu hb1 hb2 hb3 (by rw [← hfo, List.drop_eq_nil_of_le (by omega)]; rfl)⟩
  refine v_aload_n X (dk D_Rf_act 0 rfl) rfl ?_
  refine v_getI X (dk D_Rf_act 1 rfl) F_Rf_243 rfl rfl (hS.lt (by decide)) ?_
  rw [hC.1.2.1, show na (f :: r) = na r + f.2.1.length from rfl]
  refine v_iload X (dk D_Rf_act 2 rfl) rfl ?_
  refine v_isub X (dk D_Rf_act 3 rfl) ?_
  rw [show nI (na r + f.2.1.length) - nI (na r) = nI f.2.1.length from by rw [pk_sub (by omega), Nat.add_sub_cancel_left]]
  refine v_istore (lb := [some (.ref 1003), some (.int (nI A.length)), some (.int (nI (hl r).length)), some (.int (nI f.1.length)), some (.int (nI (na r))), some (.int (nI f.2.1.length)), none, none, none]) X (dk D_Rf_act 4 rfl) (by decide) rfl ?_
  refine v_aload_n X (dk D_Rf_act 5 rfl) rfl ?_
  refine v_getF X (dk D_Rf_act 6 rfl) F_Rf_43 rfl rfl (hS.lt (by decide)) (hS.2 1003 25) ?_
  refine v_iload_n X (dk D_Rf_act 7 rfl) rfl ?_
  refine v_iald X (dk D_Rf_act 8 rfl) rfl (hS.lt (by decide)) (vp_in_nI (show A.length < 340 by omega) (by decide)) ?_
  rw [nI_clamp (by omega), hat.2.2.2, hj]
  rw [show nI (bN (some (1048576 + 3))) = 4 from rfl]
  refine v_tableIn (tgt := 120) X (dk D_Rf_act 9 rfl) (by decide) (by decide) rfl (by decide) ?_
  refine v_aload_n X (dk D_Rf_act 30 rfl) rfl ?_
  refine v_getF X (dk D_Rf_act 31 rfl) F_Rf_43 rfl rfl (hS.lt (by decide)) (hS.2 1003 25) ?_
  refine v_iload_n X (dk D_Rf_act 32 rfl) rfl ?_
  refine v_iald X (dk D_Rf_act 33 rfl) rfl (hS.lt (by decide)) (vp_in_nI (show A.length < 340 by omega) (by decide)) ?_
  rw [nI_clamp (by omega), hat.2.2.2, hj]
  rw [show nI (bN (some (1048576 + 3))) = 4 from rfl]
  refine v_iconst (v := 3) X (dk D_Rf_act 34 rfl) (by decide) ?_
  refine v_icmp_ne (tgt := 134) X (dk D_Rf_act 35 rfl) (by decide) (fun _ => ?_) (fun c127 => absurd c127 (by decide))
  refine v_iconst (v := 0) X (dk D_Rf_act 38 rfl) (by decide) ?_
  refine v_istore (lb := [some (.ref 1003), some (.int (nI A.length)), some (.int (nI (hl r).length)), some (.int (nI f.1.length)), some (.int (nI (na r))), some (.int (nI f.2.1.length)), some (.int 0), none, none]) X (dk D_Rf_act 39 rfl) (by decide) rfl ?_
  refine v_iconst (v := nI (0 + 1)) X (dk D_Rf_act 40 rfl) (by decide) ?_
  refine v_istore (lb := [some (.ref 1003), some (.int (nI A.length)), some (.int (nI (hl r).length)), some (.int (nI f.1.length)), some (.int (nI (na r))), some (.int (nI f.2.1.length)), some (.int 0), some (.int (nI (0 + 1))), none]) X (dk D_Rf_act 41 rfl) (by decide) rfl ?_
  exact loop f.2.1.length 0 M g (rs.rf g _ _) hM hbd (by rw [hSe] at hdf; exact hdf) (by rw [hSe] at hdb; exact hdb) (by omega) (Nat.zero_le _) (by rw [hSe]; rfl)
set_option maxHeartbeats 4000000 in
set_option maxRecDepth 100000 in
theorem r_act_4 (l : Launch) (q : ev_T) {fu : Nat} {f : Fr} {r : List Fr} {S : Mst} {M A B : List Me} {e : Me} {g : mu_T} (hZ : RZ g fu S) (he : gI g 1003 2 = 0) (hV : GV g []) (hC : AC g f r) (hM : RM g M) (hbd : bnd M) (hdf : S.2.2.2.1.2.1 ≤ 300) (hdb : S.2.2.2.1.2.2 ≤ 16384) (hSe : S.2.2.2.1 = (mgP M, cD M, cB M)) (hMA : M = A ++ e :: B) (he2 : e.2.1 = some (1048576 + 4)) : Ctr l q M_Rf_act 66 [.ref 1003, .int (nI A.length), .int (nI (hl r).length), .int (nI f.1.length), .int (nI (na r))] (0, 0, g) (fun v w => v = none ∧ rs g w.2.2 [2, 3, 4, 8, 9, 10, 11, 13, 15, 20, 21, 27, 28, 29, 32, 33, 39, 40, 41, 42, 43, 44] [1007, 1008, 1010, 1011, 1012, 1013, 1014, 1015, 1016, 1017, 1020, 1021] ∧ AP w.2.2 fu (aX S f e.2)) := by
  have hS := hZ.1
  have hI := hZ.2.1
  have hQ := hZ.2.2.1
  have hby := hZ.2.2.2.1
  have hP := hZ.2.2.2.2.1
  have hD := hZ.2.2.2.2.2
  have hG := GE_nil hI he hV
  have hat := (show RM g (A ++ e :: B) from hMA ▸ hM).at.1
  have hAl : A.length < 317 := by have := hM.2.2.2.2.2.2.1; rw [hMA, List.length_append, List.length_cons] at this; omega
  have hem : e ∈ M := by rw [hMA]; exact List.mem_append_right _ (List.mem_cons_self ..)
  have h16 := hC.1.1.2.2
  have hna : na r + f.2.1.length ≤ 8192 := hC.1.2.2.1
  have hj := he2
  have haX : aX S f e.2 = bI 4 S f := by rw [show e.2 = (some (1048576 + 4), e.2.2) from by rw [← he2], aX, Nat.add_sub_cancel_left]
  refine Ctr.mk (lb := [some (.ref 1003), some (.int (nI A.length)), some (.int (nI (hl r).length)), some (.int (nI f.1.length)), some (.int (nI (na r))), none, none, none, none]) (by decide +kernel) (Nat.le_of_ble_eq_true rfl) rfl rfl ?_
  intro pp ee ss mm aa bb mt cd X hrt hlk hnm
  refine v_inv (fun hBB _ => ?_)
  have hab : ∀ i, ∀ x ∈ f.2.1.getD i [], isByte x := fun i => rw_byte hBB (r := 1018) (N := 16385) rfl (hC.1.1.arg i)
  have hle0 := ag_le (f := f) (r := r) 0
  rcases tp_or M (f.2.1.getD 0 []) with ⟨hno, ht⟩ | ⟨A1, e1, B1, hM1A, he1, hB1, ht⟩
  · have hp : mgP M (f.2.1.getD 0 []) = [] := mgP_no hno
    refine v_aload_n X (dk D_Rf_act 0 rfl) rfl ?_
    refine v_getI X (dk D_Rf_act 1 rfl) F_Rf_243 rfl rfl (hS.lt (by decide)) ?_
    rw [hC.1.2.1, show na (f :: r) = na r + f.2.1.length from rfl]
    refine v_iload X (dk D_Rf_act 2 rfl) rfl ?_
    refine v_isub X (dk D_Rf_act 3 rfl) ?_
    rw [show nI (na r + f.2.1.length) - nI (na r) = nI f.2.1.length from by rw [pk_sub (by omega), Nat.add_sub_cancel_left]]
    refine v_istore (lb := [some (.ref 1003), some (.int (nI A.length)), some (.int (nI (hl r).length)), some (.int (nI f.1.length)), some (.int (nI (na r))), some (.int (nI f.2.1.length)), none, none, none]) X (dk D_Rf_act 4 rfl) (by decide) rfl ?_
    refine v_aload_n X (dk D_Rf_act 5 rfl) rfl ?_
    refine v_getF X (dk D_Rf_act 6 rfl) F_Rf_43 rfl rfl (hS.lt (by decide)) (hS.2 1003 25) ?_
    refine v_iload_n X (dk D_Rf_act 7 rfl) rfl ?_
    refine v_iald X (dk D_Rf_act 8 rfl) rfl (hS.lt (by decide)) (vp_in_nI (show A.length < 340 by omega) (by decide)) ?_
    rw [nI_clamp (by omega), hat.2.2.2, hj]
    rw [show nI (bN (some (1048576 + 4))) = 5 from rfl]
    refine v_tableIn (tgt := 231) X (dk D_Rf_act 9 rfl) (by decide) (by decide) rfl (by decide) ?_
    refine v_aload_n X (dk D_Rf_act 84 rfl) rfl ?_
    refine v_iload X (dk D_Rf_act 85 rfl) rfl ?_
    refine v_aload_n X (dk D_Rf_act 86 rfl) rfl ?_
    refine v_aload_n X (dk D_Rf_act 87 rfl) rfl ?_
    refine v_getF X (dk D_Rf_act 88 rfl) F_Rf_56 rfl rfl (hS.lt (by decide)) (hS.2 1003 35) ?_
    refine v_aload_n X (dk D_Rf_act 89 rfl) rfl ?_
    refine v_iload X (dk D_Rf_act 90 rfl) rfl ?_
    refine v_iconst (v := nI (0 + 1)) X (dk D_Rf_act 91 rfl) (by decide) ?_
    refine v_invV (As := [.int (nI (na r)), .int (nI (0 + 1))]) (st := [.ref 1018, .ref 1003, .int (nI (na r)), .ref 1003]) X (r_argumentAt l q (i := 0) hS hC (by omega)) (dk D_Rf_act 92 rfl) G_Rf_268 K_Rf_argumentAt V_Rf_argumentAt rfl rfl (hS.lt (by decide)) rfl rfl (Nat.le_of_ble_eq_true rfl) (Nat.le_of_ble_eq_true rfl) (Nat.le_of_ble_eq_true rfl) (Nat.le_of_ble_eq_true rfl) (Nat.le_of_ble_eq_true rfl) ?_
    rintro v ws ⟨rfl, hws⟩
    rw [hws]
    show Vv _ _ _ _ _ _ _ _ _ _ _ _ _ _ _ [.int (nI (stA f r 0)), .ref 1018, .ref 1003, .int (nI (na r)), .ref 1003] (0, 0, g)
    refine v_aload_n X (dk D_Rf_act 93 rfl) rfl ?_
    refine v_iload X (dk D_Rf_act 94 rfl) rfl ?_
    refine v_iconst (v := nI (0 + 1)) X (dk D_Rf_act 95 rfl) (by decide) ?_
    refine v_invV (As := [.int (nI (na r)), .int (nI (0 + 1))]) (st := [.int (nI (stA f r 0)), .ref 1018, .ref 1003, .int (nI (na r)), .ref 1003]) X (r_argumentSize l q (i := 0) hS hC (by omega)) (dk D_Rf_act 96 rfl) G_Rf_272 K_Rf_argumentSize V_Rf_argumentSize rfl rfl (hS.lt (by decide)) rfl rfl (Nat.le_of_ble_eq_true rfl) (Nat.le_of_ble_eq_true rfl) (Nat.le_of_ble_eq_true rfl) (Nat.le_of_ble_eq_true rfl) (Nat.le_of_ble_eq_true rfl) ?_
    rintro v ws ⟨rfl, hws⟩
    rw [hws]
    show Vv _ _ _ _ _ _ _ _ _ _ _ _ _ _ _ [.int (nI (f.2.1.getD 0 []).length), .int (nI (stA f r 0)), .ref 1018, .ref 1003, .int (nI (na r)), .ref 1003] (0, 0, g)
    refine v_invV (As := [.ref 1018, .int (nI (stA f r 0)), .int (nI (f.2.1.getD 0 []).length)]) (st := [.int (nI (na r)), .ref 1003]) X (r_top l q (r := 1018) (N := 16385) (p := stA f r 0) (ys := (f.2.1.getD 0 [])) hS hM rfl (hS.lt (by decide)) (by decide) (by omega) (hC.1.1.arg 0)) (dk D_Rf_act 97 rfl) G_Rf_232 K_Rf_top V_Rf_top rfl rfl (hS.lt (by decide)) rfl rfl (Nat.le_of_ble_eq_true rfl) (Nat.le_of_ble_eq_true rfl) (Nat.le_of_ble_eq_true rfl) (Nat.le_of_ble_eq_true rfl) (Nat.le_of_ble_eq_true rfl) ?_
    rintro v w1 ⟨rfl, hw⟩
    rw [hw, ht]
    show Vv _ _ _ _ _ _ _ _ _ _ _ _ _ _ _ [.int (-1), .int (nI (na r)), .ref 1003] (0, 0, g)
    refine v_if_lt (tgt := 263) X (dk D_Rf_act 98 rfl) (by decide) (fun _ => ?_) (fun c256 => absurd (by decide) c256)
    refine v_iconst (v := nI (2 + 1)) X (dk D_Rf_act 101 rfl) (by decide) ?_
    refine v_invV (As := [.int (nI (na r)), .int (nI (2 + 1))]) (st := []) X (r_giveArgument l q (i := 2) hS hI hG hC (by decide)) (dk D_Rf_act 102 rfl) G_Rf_275 K_Rf_giveArgument V_Rf_giveArgument rfl rfl (hS.lt (by decide)) rfl rfl (Nat.le_of_ble_eq_true rfl) (Nat.le_of_ble_eq_true rfl) (Nat.le_of_ble_eq_true rfl) (Nat.le_of_ble_eq_true rfl) (Nat.le_of_ble_eq_true rfl) ?_
    rintro v w1 ⟨rfl, a1, a2⟩
    show Vv _ _ _ _ _ _ _ _ _ _ _ _ _ _ _ [] (0, 0, w1.2.2)
    refine v_goto (tgt := 417) X (dk D_Rf_act 103 rfl) (by decide) ?_
    exact v_vret X hlk hrt (dk D_Rf_act 179 rfl) ⟨rfl, (a1.mono (by decide) (by decide)), by rw [haX, show bI 4 S f = (0, S, [] ++ f.2.1.getD 2 []) from by rw [bI, hSe]; exact congrArg (fun z => (0, S, z)) (if_pos hp)]; exact AP_g hZ a1 a2⟩
  · have hp : ¬ mgP M (f.2.1.getD 0 []) = [] := by rw [hM1A, mgP_top he1 hB1]; exact fun z => by cases z
    have hA1 : A1.length < 317 := by have := hM.2.2.2.2.2.2.1; rw [hM1A, List.length_append, List.length_cons] at this; omega
    refine v_aload_n X (dk D_Rf_act 0 rfl) rfl ?_
    refine v_getI X (dk D_Rf_act 1 rfl) F_Rf_243 rfl rfl (hS.lt (by decide)) ?_
    rw [hC.1.2.1, show na (f :: r) = na r + f.2.1.length from rfl]
    refine v_iload X (dk D_Rf_act 2 rfl) rfl ?_
    refine v_isub X (dk D_Rf_act 3 rfl) ?_
    rw [show nI (na r + f.2.1.length) - nI (na r) = nI f.2.1.length from by rw [pk_sub (by omega), Nat.add_sub_cancel_left]]
    refine v_istore (lb := [some (.ref 1003), some (.int (nI A.length)), some (.int (nI (hl r).length)), some (.int (nI f.1.length)), some (.int (nI (na r))), some (.int (nI f.2.1.length)), none, none, none]) X (dk D_Rf_act 4 rfl) (by decide) rfl ?_
    refine v_aload_n X (dk D_Rf_act 5 rfl) rfl ?_
    refine v_getF X (dk D_Rf_act 6 rfl) F_Rf_43 rfl rfl (hS.lt (by decide)) (hS.2 1003 25) ?_
    refine v_iload_n X (dk D_Rf_act 7 rfl) rfl ?_
    refine v_iald X (dk D_Rf_act 8 rfl) rfl (hS.lt (by decide)) (vp_in_nI (show A.length < 340 by omega) (by decide)) ?_
    rw [nI_clamp (by omega), hat.2.2.2, hj]
    rw [show nI (bN (some (1048576 + 4))) = 5 from rfl]
    refine v_tableIn (tgt := 231) X (dk D_Rf_act 9 rfl) (by decide) (by decide) rfl (by decide) ?_
    refine v_aload_n X (dk D_Rf_act 84 rfl) rfl ?_
    refine v_iload X (dk D_Rf_act 85 rfl) rfl ?_
    refine v_aload_n X (dk D_Rf_act 86 rfl) rfl ?_
    refine v_aload_n X (dk D_Rf_act 87 rfl) rfl ?_
    refine v_getF X (dk D_Rf_act 88 rfl) F_Rf_56 rfl rfl (hS.lt (by decide)) (hS.2 1003 35) ?_
    refine v_aload_n X (dk D_Rf_act 89 rfl) rfl ?_
    refine v_iload X (dk D_Rf_act 90 rfl) rfl ?_
    refine v_iconst (v := nI (0 + 1)) X (dk D_Rf_act 91 rfl) (by decide) ?_
    refine v_invV (As := [.int (nI (na r)), .int (nI (0 + 1))]) (st := [.ref 1018, .ref 1003, .int (nI (na r)), .ref 1003]) X (r_argumentAt l q (i := 0) hS hC (by omega)) (dk D_Rf_act 92 rfl) G_Rf_268 K_Rf_argumentAt V_Rf_argumentAt rfl rfl (hS.lt (by decide)) rfl rfl (Nat.le_of_ble_eq_true rfl) (Nat.le_of_ble_eq_true rfl) (Nat.le_of_ble_eq_true rfl) (Nat.le_of_ble_eq_true rfl) (Nat.le_of_ble_eq_true rfl) ?_
    rintro v ws ⟨rfl, hws⟩
    rw [hws]
    show Vv _ _ _ _ _ _ _ _ _ _ _ _ _ _ _ [.int (nI (stA f r 0)), .ref 1018, .ref 1003, .int (nI (na r)), .ref 1003] (0, 0, g)
    refine v_aload_n X (dk D_Rf_act 93 rfl) rfl ?_
    refine v_iload X (dk D_Rf_act 94 rfl) rfl ?_
    refine v_iconst (v := nI (0 + 1)) X (dk D_Rf_act 95 rfl) (by decide) ?_
    refine v_invV (As := [.int (nI (na r)), .int (nI (0 + 1))]) (st := [.int (nI (stA f r 0)), .ref 1018, .ref 1003, .int (nI (na r)), .ref 1003]) X (r_argumentSize l q (i := 0) hS hC (by omega)) (dk D_Rf_act 96 rfl) G_Rf_272 K_Rf_argumentSize V_Rf_argumentSize rfl rfl (hS.lt (by decide)) rfl rfl (Nat.le_of_ble_eq_true rfl) (Nat.le_of_ble_eq_true rfl) (Nat.le_of_ble_eq_true rfl) (Nat.le_of_ble_eq_true rfl) (Nat.le_of_ble_eq_true rfl) ?_
    rintro v ws ⟨rfl, hws⟩
    rw [hws]
    show Vv _ _ _ _ _ _ _ _ _ _ _ _ _ _ _ [.int (nI (f.2.1.getD 0 []).length), .int (nI (stA f r 0)), .ref 1018, .ref 1003, .int (nI (na r)), .ref 1003] (0, 0, g)
    refine v_invV (As := [.ref 1018, .int (nI (stA f r 0)), .int (nI (f.2.1.getD 0 []).length)]) (st := [.int (nI (na r)), .ref 1003]) X (r_top l q (r := 1018) (N := 16385) (p := stA f r 0) (ys := (f.2.1.getD 0 [])) hS hM rfl (hS.lt (by decide)) (by decide) (by omega) (hC.1.1.arg 0)) (dk D_Rf_act 97 rfl) G_Rf_232 K_Rf_top V_Rf_top rfl rfl (hS.lt (by decide)) rfl rfl (Nat.le_of_ble_eq_true rfl) (Nat.le_of_ble_eq_true rfl) (Nat.le_of_ble_eq_true rfl) (Nat.le_of_ble_eq_true rfl) (Nat.le_of_ble_eq_true rfl) ?_
    rintro v w1 ⟨rfl, hw⟩
    rw [hw, ht]
    show Vv _ _ _ _ _ _ _ _ _ _ _ _ _ _ _ [.int (nI A1.length), .int (nI (na r)), .ref 1003] (0, 0, g)
    refine v_if_lt (tgt := 263) X (dk D_Rf_act 98 rfl) (by decide) (fun c256 => absurd c256 (nI_pos (by omega))) (fun _ => ?_)
    refine v_iconst (v := nI (1 + 1)) X (dk D_Rf_act 99 rfl) (by decide) ?_
    refine v_goto (tgt := 264) X (dk D_Rf_act 100 rfl) (by decide) ?_
    refine v_invV (As := [.int (nI (na r)), .int (nI (1 + 1))]) (st := []) X (r_giveArgument l q (i := 1) hS hI hG hC (by decide)) (dk D_Rf_act 102 rfl) G_Rf_275 K_Rf_giveArgument V_Rf_giveArgument rfl rfl (hS.lt (by decide)) rfl rfl (Nat.le_of_ble_eq_true rfl) (Nat.le_of_ble_eq_true rfl) (Nat.le_of_ble_eq_true rfl) (Nat.le_of_ble_eq_true rfl) (Nat.le_of_ble_eq_true rfl) ?_
    rintro v w1 ⟨rfl, a1, a2⟩
    show Vv _ _ _ _ _ _ _ _ _ _ _ _ _ _ _ [] (0, 0, w1.2.2)
    refine v_goto (tgt := 417) X (dk D_Rf_act 103 rfl) (by decide) ?_
    exact v_vret X hlk hrt (dk D_Rf_act 179 rfl) ⟨rfl, (a1.mono (by decide) (by decide)), by rw [haX, show bI 4 S f = (0, S, [] ++ f.2.1.getD 1 []) from by rw [bI, hSe]; exact congrArg (fun z => (0, S, z)) (if_neg hp)]; exact AP_g hZ a1 a2⟩
set_option maxHeartbeats 4000000 in
set_option maxRecDepth 100000 in
theorem r_act_5 (l : Launch) (q : ev_T) {fu : Nat} {f : Fr} {r : List Fr} {S : Mst} {M A B : List Me} {e : Me} {g : mu_T} (hZ : RZ g fu S) (he : gI g 1003 2 = 0) (hV : GV g []) (hC : AC g f r) (hM : RM g M) (hbd : bnd M) (hdf : S.2.2.2.1.2.1 ≤ 300) (hdb : S.2.2.2.1.2.2 ≤ 16384) (hSe : S.2.2.2.1 = (mgP M, cD M, cB M)) (hMA : M = A ++ e :: B) (he2 : e.2.1 = some (1048576 + 5)) : Ctr l q M_Rf_act 66 [.ref 1003, .int (nI A.length), .int (nI (hl r).length), .int (nI f.1.length), .int (nI (na r))] (0, 0, g) (fun v w => v = none ∧ rs g w.2.2 [2, 3, 4, 8, 9, 10, 11, 13, 15, 20, 21, 27, 28, 29, 32, 33, 39, 40, 41, 42, 43, 44] [1007, 1008, 1010, 1011, 1012, 1013, 1014, 1015, 1016, 1017, 1020, 1021] ∧ AP w.2.2 fu (aX S f e.2)) := by
  have hS := hZ.1
  have hI := hZ.2.1
  have hQ := hZ.2.2.1
  have hby := hZ.2.2.2.1
  have hP := hZ.2.2.2.2.1
  have hD := hZ.2.2.2.2.2
  have hG := GE_nil hI he hV
  have hat := (show RM g (A ++ e :: B) from hMA ▸ hM).at.1
  have hAl : A.length < 317 := by have := hM.2.2.2.2.2.2.1; rw [hMA, List.length_append, List.length_cons] at this; omega
  have hem : e ∈ M := by rw [hMA]; exact List.mem_append_right _ (List.mem_cons_self ..)
  have h16 := hC.1.1.2.2
  have hna : na r + f.2.1.length ≤ 8192 := hC.1.2.2.1
  have hj := he2
  have haX : aX S f e.2 = bI 5 S f := by rw [show e.2 = (some (1048576 + 5), e.2.2) from by rw [← he2], aX, Nat.add_sub_cancel_left]
  refine Ctr.mk (lb := [some (.ref 1003), some (.int (nI A.length)), some (.int (nI (hl r).length)), some (.int (nI f.1.length)), some (.int (nI (na r))), none, none, none, none]) (by decide +kernel) (Nat.le_of_ble_eq_true rfl) rfl rfl ?_
  intro pp ee ss mm aa bb mt cd X hrt hlk hnm
  refine v_inv (fun hBB _ => ?_)
  have hab : ∀ i, ∀ x ∈ f.2.1.getD i [], isByte x := fun i => rw_byte hBB (r := 1018) (N := 16385) rfl (hC.1.1.arg i)
  refine v_aload_n X (dk D_Rf_act 0 rfl) rfl ?_
  refine v_getI X (dk D_Rf_act 1 rfl) F_Rf_243 rfl rfl (hS.lt (by decide)) ?_
  rw [hC.1.2.1, show na (f :: r) = na r + f.2.1.length from rfl]
  refine v_iload X (dk D_Rf_act 2 rfl) rfl ?_
  refine v_isub X (dk D_Rf_act 3 rfl) ?_
  rw [show nI (na r + f.2.1.length) - nI (na r) = nI f.2.1.length from by rw [pk_sub (by omega), Nat.add_sub_cancel_left]]
  refine v_istore (lb := [some (.ref 1003), some (.int (nI A.length)), some (.int (nI (hl r).length)), some (.int (nI f.1.length)), some (.int (nI (na r))), some (.int (nI f.2.1.length)), none, none, none]) X (dk D_Rf_act 4 rfl) (by decide) rfl ?_
  refine v_aload_n X (dk D_Rf_act 5 rfl) rfl ?_
  refine v_getF X (dk D_Rf_act 6 rfl) F_Rf_43 rfl rfl (hS.lt (by decide)) (hS.2 1003 25) ?_
  refine v_iload_n X (dk D_Rf_act 7 rfl) rfl ?_
  refine v_iald X (dk D_Rf_act 8 rfl) rfl (hS.lt (by decide)) (vp_in_nI (show A.length < 340 by omega) (by decide)) ?_
  rw [nI_clamp (by omega), hat.2.2.2, hj]
  rw [show nI (bN (some (1048576 + 5))) = 6 from rfl]
  refine v_tableIn (tgt := 270) X (dk D_Rf_act 9 rfl) (by decide) (by decide) rfl (by decide) ?_
  refine v_aload_n X (dk D_Rf_act 104 rfl) rfl ?_
  refine v_iload X (dk D_Rf_act 105 rfl) rfl ?_
  refine v_iload X (dk D_Rf_act 106 rfl) rfl ?_
  refine v_invV (As := [.int (nI (na r)), .int (nI f.2.1.length)]) (st := []) X (r_choose l q hS hI hG hC) (dk D_Rf_act 107 rfl) G_Rf_293 K_Rf_choose V_Rf_choose rfl rfl (hS.lt (by decide)) rfl rfl (Nat.le_of_ble_eq_true rfl) (Nat.le_of_ble_eq_true rfl) (Nat.le_of_ble_eq_true rfl) (Nat.le_of_ble_eq_true rfl) (Nat.le_of_ble_eq_true rfl) ?_
  rintro v w1 ⟨rfl, a1, a2⟩
  show Vv _ _ _ _ _ _ _ _ _ _ _ _ _ _ _ [] (0, 0, w1.2.2)
  refine v_goto (tgt := 417) X (dk D_Rf_act 108 rfl) (by decide) ?_
  exact v_vret X hlk hrt (dk D_Rf_act 179 rfl) ⟨rfl, (a1.mono (by decide) (by decide)), by rw [haX, show bI 5 S f = (0, S, [] ++ ifX f.2.1) from rfl]; exact AP_g hZ a1 a2⟩
set_option maxHeartbeats 4000000 in
set_option maxRecDepth 100000 in
theorem r_act_6 (l : Launch) (q : ev_T) {fu : Nat} {f : Fr} {r : List Fr} {S : Mst} {M A B : List Me} {e : Me} {g : mu_T} (hZ : RZ g fu S) (he : gI g 1003 2 = 0) (hV : GV g []) (hC : AC g f r) (hM : RM g M) (hbd : bnd M) (hdf : S.2.2.2.1.2.1 ≤ 300) (hdb : S.2.2.2.1.2.2 ≤ 16384) (hSe : S.2.2.2.1 = (mgP M, cD M, cB M)) (hMA : M = A ++ e :: B) (he2 : e.2.1 = some (1048576 + 6)) : Ctr l q M_Rf_act 66 [.ref 1003, .int (nI A.length), .int (nI (hl r).length), .int (nI f.1.length), .int (nI (na r))] (0, 0, g) (fun v w => v = none ∧ rs g w.2.2 [2, 3, 4, 8, 9, 10, 11, 13, 15, 20, 21, 27, 28, 29, 32, 33, 39, 40, 41, 42, 43, 44] [1007, 1008, 1010, 1011, 1012, 1013, 1014, 1015, 1016, 1017, 1020, 1021] ∧ AP w.2.2 fu (aX S f e.2)) := by
  have hS := hZ.1
  have hI := hZ.2.1
  have hQ := hZ.2.2.1
  have hby := hZ.2.2.2.1
  have hP := hZ.2.2.2.2.1
  have hD := hZ.2.2.2.2.2
  have hG := GE_nil hI he hV
  have hat := (show RM g (A ++ e :: B) from hMA ▸ hM).at.1
  have hAl : A.length < 317 := by have := hM.2.2.2.2.2.2.1; rw [hMA, List.length_append, List.length_cons] at this; omega
  have hem : e ∈ M := by rw [hMA]; exact List.mem_append_right _ (List.mem_cons_self ..)
  have h16 := hC.1.1.2.2
  have hna : na r + f.2.1.length ≤ 8192 := hC.1.2.2.1
  have hj := he2
  have haX : aX S f e.2 = bI 6 S f := by rw [show e.2 = (some (1048576 + 6), e.2.2) from by rw [← he2], aX, Nat.add_sub_cancel_left]
  refine Ctr.mk (lb := [some (.ref 1003), some (.int (nI A.length)), some (.int (nI (hl r).length)), some (.int (nI f.1.length)), some (.int (nI (na r))), none, none, none, none]) (by decide +kernel) (Nat.le_of_ble_eq_true rfl) rfl rfl ?_
  intro pp ee ss mm aa bb mt cd X hrt hlk hnm
  refine v_inv (fun hBB _ => ?_)
  have hab : ∀ i, ∀ x ∈ f.2.1.getD i [], isByte x := fun i => rw_byte hBB (r := 1018) (N := 16385) rfl (hC.1.1.arg i)
  refine v_aload_n X (dk D_Rf_act 0 rfl) rfl ?_
  refine v_getI X (dk D_Rf_act 1 rfl) F_Rf_243 rfl rfl (hS.lt (by decide)) ?_
  rw [hC.1.2.1, show na (f :: r) = na r + f.2.1.length from rfl]
  refine v_iload X (dk D_Rf_act 2 rfl) rfl ?_
  refine v_isub X (dk D_Rf_act 3 rfl) ?_
  rw [show nI (na r + f.2.1.length) - nI (na r) = nI f.2.1.length from by rw [pk_sub (by omega), Nat.add_sub_cancel_left]]
  refine v_istore (lb := [some (.ref 1003), some (.int (nI A.length)), some (.int (nI (hl r).length)), some (.int (nI f.1.length)), some (.int (nI (na r))), some (.int (nI f.2.1.length)), none, none, none]) X (dk D_Rf_act 4 rfl) (by decide) rfl ?_
  refine v_aload_n X (dk D_Rf_act 5 rfl) rfl ?_
  refine v_getF X (dk D_Rf_act 6 rfl) F_Rf_43 rfl rfl (hS.lt (by decide)) (hS.2 1003 25) ?_
  refine v_iload_n X (dk D_Rf_act 7 rfl) rfl ?_
  refine v_iald X (dk D_Rf_act 8 rfl) rfl (hS.lt (by decide)) (vp_in_nI (show A.length < 340 by omega) (by decide)) ?_
  rw [nI_clamp (by omega), hat.2.2.2, hj]
  rw [show nI (bN (some (1048576 + 6))) = 7 from rfl]
  refine v_tableIn (tgt := 281) X (dk D_Rf_act 9 rfl) (by decide) (by decide) rfl (by decide) ?_
  refine v_aload_n X (dk D_Rf_act 109 rfl) rfl ?_
  refine v_iload X (dk D_Rf_act 110 rfl) rfl ?_
  refine v_invV (As := [.int (nI (na r))]) (st := []) X (r_evaluate l q hS hI hG he hC) (dk D_Rf_act 111 rfl) G_Rf_296 K_Rf_evaluate V_Rf_evaluate rfl rfl (hS.lt (by decide)) rfl rfl (Nat.le_of_ble_eq_true rfl) (Nat.le_of_ble_eq_true rfl) (Nat.le_of_ble_eq_true rfl) (Nat.le_of_ble_eq_true rfl) (Nat.le_of_ble_eq_true rfl) ?_
  rintro v w1 ⟨rfl, hw1⟩
  show Vv _ _ _ _ _ _ _ _ _ _ _ _ _ _ _ [] (0, 0, w1.2.2)
  refine v_goto (tgt := 417) X (dk D_Rf_act 112 rfl) (by decide) ?_
  exact v_vret X hlk hrt (dk D_Rf_act 179 rfl) ⟨rfl, hw1.elim (fun z => z.2.1.mono (by decide) (by decide)) (fun z => z.2.1.mono (by decide) (by decide)), by rw [haX]; exact AP_v hZ hw1⟩
set_option maxHeartbeats 4000000 in
set_option maxRecDepth 100000 in
theorem r_act_7 (l : Launch) (q : ev_T) {fu : Nat} {f : Fr} {r : List Fr} {S : Mst} {M A B : List Me} {e : Me} {g : mu_T} (hZ : RZ g fu S) (he : gI g 1003 2 = 0) (hV : GV g []) (hC : AC g f r) (hM : RM g M) (hbd : bnd M) (hdf : S.2.2.2.1.2.1 ≤ 300) (hdb : S.2.2.2.1.2.2 ≤ 16384) (hSe : S.2.2.2.1 = (mgP M, cD M, cB M)) (hMA : M = A ++ e :: B) (he2 : e.2.1 = some (1048576 + 7)) : Ctr l q M_Rf_act 66 [.ref 1003, .int (nI A.length), .int (nI (hl r).length), .int (nI f.1.length), .int (nI (na r))] (0, 0, g) (fun v w => v = none ∧ rs g w.2.2 [2, 3, 4, 8, 9, 10, 11, 13, 15, 20, 21, 27, 28, 29, 32, 33, 39, 40, 41, 42, 43, 44] [1007, 1008, 1010, 1011, 1012, 1013, 1014, 1015, 1016, 1017, 1020, 1021] ∧ AP w.2.2 fu (aX S f e.2)) := by
  have hS := hZ.1
  have hI := hZ.2.1
  have hQ := hZ.2.2.1
  have hby := hZ.2.2.2.1
  have hP := hZ.2.2.2.2.1
  have hD := hZ.2.2.2.2.2
  have hG := GE_nil hI he hV
  have hat := (show RM g (A ++ e :: B) from hMA ▸ hM).at.1
  have hAl : A.length < 317 := by have := hM.2.2.2.2.2.2.1; rw [hMA, List.length_append, List.length_cons] at this; omega
  have hem : e ∈ M := by rw [hMA]; exact List.mem_append_right _ (List.mem_cons_self ..)
  have h16 := hC.1.1.2.2
  have hna : na r + f.2.1.length ≤ 8192 := hC.1.2.2.1
  have hj := he2
  have haX : aX S f e.2 = bI 7 S f := by rw [show e.2 = (some (1048576 + 7), e.2.2) from by rw [← he2], aX, Nat.add_sub_cancel_left]
  refine Ctr.mk (lb := [some (.ref 1003), some (.int (nI A.length)), some (.int (nI (hl r).length)), some (.int (nI f.1.length)), some (.int (nI (na r))), none, none, none, none]) (by decide +kernel) (Nat.le_of_ble_eq_true rfl) rfl rfl ?_
  intro pp ee ss mm aa bb mt cd X hrt hlk hnm
  refine v_inv (fun hBB _ => ?_)
  have hab : ∀ i, ∀ x ∈ f.2.1.getD i [], isByte x := fun i => rw_byte hBB (r := 1018) (N := 16385) rfl (hC.1.1.arg i)
  cases hn : nmX (f.2.1.getD 0 []) with
  | none =>
    have zE : rs g (xI (xI g 1003 2 36) 1003 3 (gI g 1003 10)) [2, 3] [] := ((rs.rf g _ _).fI (by decide)).fI (by decide)
    refine v_aload_n X (dk D_Rf_act 0 rfl) rfl ?_
    refine v_getI X (dk D_Rf_act 1 rfl) F_Rf_243 rfl rfl (hS.lt (by decide)) ?_
    rw [hC.1.2.1, show na (f :: r) = na r + f.2.1.length from rfl]
    refine v_iload X (dk D_Rf_act 2 rfl) rfl ?_
    refine v_isub X (dk D_Rf_act 3 rfl) ?_
    rw [show nI (na r + f.2.1.length) - nI (na r) = nI f.2.1.length from by rw [pk_sub (by omega), Nat.add_sub_cancel_left]]
    refine v_istore (lb := [some (.ref 1003), some (.int (nI A.length)), some (.int (nI (hl r).length)), some (.int (nI f.1.length)), some (.int (nI (na r))), some (.int (nI f.2.1.length)), none, none, none]) X (dk D_Rf_act 4 rfl) (by decide) rfl ?_
    refine v_aload_n X (dk D_Rf_act 5 rfl) rfl ?_
    refine v_getF X (dk D_Rf_act 6 rfl) F_Rf_43 rfl rfl (hS.lt (by decide)) (hS.2 1003 25) ?_
    refine v_iload_n X (dk D_Rf_act 7 rfl) rfl ?_
    refine v_iald X (dk D_Rf_act 8 rfl) rfl (hS.lt (by decide)) (vp_in_nI (show A.length < 340 by omega) (by decide)) ?_
    rw [nI_clamp (by omega), hat.2.2.2, hj]
    rw [show nI (bN (some (1048576 + 7))) = 8 from rfl]
    refine v_tableIn (tgt := 290) X (dk D_Rf_act 9 rfl) (by decide) (by decide) rfl (by decide) ?_
    refine v_aload_n X (dk D_Rf_act 113 rfl) rfl ?_
    refine v_aload_n X (dk D_Rf_act 114 rfl) rfl ?_
    refine v_iload X (dk D_Rf_act 115 rfl) rfl ?_
    refine v_iconst (v := nI (0 + 1)) X (dk D_Rf_act 116 rfl) (by decide) ?_
    refine v_invV (As := [.int (nI (na r)), .int (nI (0 + 1))]) (st := [.ref 1003]) X (r_number l q (i := 0) hS hC (by decide)) (dk D_Rf_act 117 rfl) G_Rf_299 K_Rf_number V_Rf_number rfl rfl (hS.lt (by decide)) rfl rfl (Nat.le_of_ble_eq_true rfl) (Nat.le_of_ble_eq_true rfl) (Nat.le_of_ble_eq_true rfl) (Nat.le_of_ble_eq_true rfl) (Nat.le_of_ble_eq_true rfl) ?_
    rintro v w1 ⟨x, rfl, hy1, hy2⟩
    rw [hy2 hn, if_pos he]
    show Vv _ _ _ _ _ _ _ _ _ _ _ _ _ _ _ [.int x, .ref 1003] (0, 0, (xI (xI g 1003 2 36) 1003 3 (gI g 1003 10)))
    refine v_i2l X (dk D_Rf_act 118 rfl) rfl ?_
    refine v_lconst (v := 1) X (dk D_Rf_act 119 rfl) (by decide) ?_
    refine v_ladd X (dk D_Rf_act 120 rfl) ?_
    refine v_invV (As := [.long (x.toInt64 + 1)]) (st := []) X (r_giveIfRightE l q (x := x.toInt64 + 1) (g := (xI (xI g 1003 2 36) 1003 3 (gI g 1003 10))) (zE.S hS) (by rw [gI_nk (by decide), gI_eq]; decide)) (dk D_Rf_act 121 rfl) G_Rf_302 K_Rf_giveIfRight V_Rf_giveIfRight rfl rfl ((zE.S hS).lt (by decide)) rfl rfl (Nat.le_of_ble_eq_true rfl) (Nat.le_of_ble_eq_true rfl) (Nat.le_of_ble_eq_true rfl) (Nat.le_of_ble_eq_true rfl) (Nat.le_of_ble_eq_true rfl) ?_
    rintro v w2 ⟨rfl, hw2⟩
    rw [hw2]
    show Vv _ _ _ _ _ _ _ _ _ _ _ _ _ _ _ [] (0, 0, (xI (xI g 1003 2 36) 1003 3 (gI g 1003 10)))
    refine v_goto (tgt := 417) X (dk D_Rf_act 122 rfl) (by decide) ?_
    exact v_vret X hlk hrt (dk D_Rf_act 179 rfl) ⟨rfl, (zE.mono (by decide) (by decide)), by rw [haX, show bI 7 S f = (36, S, []) from bI_7n hn]; exact AP_e hZ (by decide) zE (by decide) ((gI_nk (by decide)).trans (gI_eq _ _ _ _)) (gI_eq _ _ _ _)⟩
  | some y =>
    refine v_aload_n X (dk D_Rf_act 0 rfl) rfl ?_
    refine v_getI X (dk D_Rf_act 1 rfl) F_Rf_243 rfl rfl (hS.lt (by decide)) ?_
    rw [hC.1.2.1, show na (f :: r) = na r + f.2.1.length from rfl]
    refine v_iload X (dk D_Rf_act 2 rfl) rfl ?_
    refine v_isub X (dk D_Rf_act 3 rfl) ?_
    rw [show nI (na r + f.2.1.length) - nI (na r) = nI f.2.1.length from by rw [pk_sub (by omega), Nat.add_sub_cancel_left]]
    refine v_istore (lb := [some (.ref 1003), some (.int (nI A.length)), some (.int (nI (hl r).length)), some (.int (nI f.1.length)), some (.int (nI (na r))), some (.int (nI f.2.1.length)), none, none, none]) X (dk D_Rf_act 4 rfl) (by decide) rfl ?_
    refine v_aload_n X (dk D_Rf_act 5 rfl) rfl ?_
    refine v_getF X (dk D_Rf_act 6 rfl) F_Rf_43 rfl rfl (hS.lt (by decide)) (hS.2 1003 25) ?_
    refine v_iload_n X (dk D_Rf_act 7 rfl) rfl ?_
    refine v_iald X (dk D_Rf_act 8 rfl) rfl (hS.lt (by decide)) (vp_in_nI (show A.length < 340 by omega) (by decide)) ?_
    rw [nI_clamp (by omega), hat.2.2.2, hj]
    rw [show nI (bN (some (1048576 + 7))) = 8 from rfl]
    refine v_tableIn (tgt := 290) X (dk D_Rf_act 9 rfl) (by decide) (by decide) rfl (by decide) ?_
    refine v_aload_n X (dk D_Rf_act 113 rfl) rfl ?_
    refine v_aload_n X (dk D_Rf_act 114 rfl) rfl ?_
    refine v_iload X (dk D_Rf_act 115 rfl) rfl ?_
    refine v_iconst (v := nI (0 + 1)) X (dk D_Rf_act 116 rfl) (by decide) ?_
    refine v_invV (As := [.int (nI (na r)), .int (nI (0 + 1))]) (st := [.ref 1003]) X (r_number l q (i := 0) hS hC (by decide)) (dk D_Rf_act 117 rfl) G_Rf_299 K_Rf_number V_Rf_number rfl rfl (hS.lt (by decide)) rfl rfl (Nat.le_of_ble_eq_true rfl) (Nat.le_of_ble_eq_true rfl) (Nat.le_of_ble_eq_true rfl) (Nat.le_of_ble_eq_true rfl) (Nat.le_of_ble_eq_true rfl) ?_
    rintro v w1 ⟨x, rfl, hy1, hy2⟩
    obtain ⟨hxy, hw⟩ := hy1 y hn; rw [hw]
    show Vv _ _ _ _ _ _ _ _ _ _ _ _ _ _ _ [.int x, .ref 1003] (0, 0, g)
    refine v_i2l X (dk D_Rf_act 118 rfl) rfl ?_
    refine v_lconst (v := 1) X (dk D_Rf_act 119 rfl) (by decide) ?_
    refine v_ladd X (dk D_Rf_act 120 rfl) ?_
    rw [hxy, (i64_1 (nmX_ne hn)).1]
    refine v_invV (As := [.long (y + 1).toInt64]) (st := []) X (r_giveIfRight l q (x := y + 1) hS hI hG he) (dk D_Rf_act 121 rfl) G_Rf_302 K_Rf_giveIfRight V_Rf_giveIfRight rfl rfl (hS.lt (by decide)) rfl rfl (Nat.le_of_ble_eq_true rfl) (Nat.le_of_ble_eq_true rfl) (Nat.le_of_ble_eq_true rfl) (Nat.le_of_ble_eq_true rfl) (Nat.le_of_ble_eq_true rfl) ?_
    rintro v w2 ⟨rfl, a1, a2⟩
    show Vv _ _ _ _ _ _ _ _ _ _ _ _ _ _ _ [] (0, 0, w2.2.2)
    refine v_goto (tgt := 417) X (dk D_Rf_act 122 rfl) (by decide) ?_
    exact v_vret X hlk hrt (dk D_Rf_act 179 rfl) ⟨rfl, (a1.mono (by decide) (by decide)), by rw [haX, show bI 7 S f = (0, S, [] ++ decB (y + 1)) from bI_7s hn]; exact AP_g hZ a1 a2⟩
set_option maxHeartbeats 4000000 in
set_option maxRecDepth 100000 in
theorem r_act_8 (l : Launch) (q : ev_T) {fu : Nat} {f : Fr} {r : List Fr} {S : Mst} {M A B : List Me} {e : Me} {g : mu_T} (hZ : RZ g fu S) (he : gI g 1003 2 = 0) (hV : GV g []) (hC : AC g f r) (hM : RM g M) (hbd : bnd M) (hdf : S.2.2.2.1.2.1 ≤ 300) (hdb : S.2.2.2.1.2.2 ≤ 16384) (hSe : S.2.2.2.1 = (mgP M, cD M, cB M)) (hMA : M = A ++ e :: B) (he2 : e.2.1 = some (1048576 + 8)) : Ctr l q M_Rf_act 66 [.ref 1003, .int (nI A.length), .int (nI (hl r).length), .int (nI f.1.length), .int (nI (na r))] (0, 0, g) (fun v w => v = none ∧ rs g w.2.2 [2, 3, 4, 8, 9, 10, 11, 13, 15, 20, 21, 27, 28, 29, 32, 33, 39, 40, 41, 42, 43, 44] [1007, 1008, 1010, 1011, 1012, 1013, 1014, 1015, 1016, 1017, 1020, 1021] ∧ AP w.2.2 fu (aX S f e.2)) := by
  have hS := hZ.1
  have hI := hZ.2.1
  have hQ := hZ.2.2.1
  have hby := hZ.2.2.2.1
  have hP := hZ.2.2.2.2.1
  have hD := hZ.2.2.2.2.2
  have hG := GE_nil hI he hV
  have hat := (show RM g (A ++ e :: B) from hMA ▸ hM).at.1
  have hAl : A.length < 317 := by have := hM.2.2.2.2.2.2.1; rw [hMA, List.length_append, List.length_cons] at this; omega
  have hem : e ∈ M := by rw [hMA]; exact List.mem_append_right _ (List.mem_cons_self ..)
  have h16 := hC.1.1.2.2
  have hna : na r + f.2.1.length ≤ 8192 := hC.1.2.2.1
  have hj := he2
  have haX : aX S f e.2 = bI 8 S f := by rw [show e.2 = (some (1048576 + 8), e.2.2) from by rw [← he2], aX, Nat.add_sub_cancel_left]
  refine Ctr.mk (lb := [some (.ref 1003), some (.int (nI A.length)), some (.int (nI (hl r).length)), some (.int (nI f.1.length)), some (.int (nI (na r))), none, none, none, none]) (by decide +kernel) (Nat.le_of_ble_eq_true rfl) rfl rfl ?_
  intro pp ee ss mm aa bb mt cd X hrt hlk hnm
  refine v_inv (fun hBB _ => ?_)
  have hab : ∀ i, ∀ x ∈ f.2.1.getD i [], isByte x := fun i => rw_byte hBB (r := 1018) (N := 16385) rfl (hC.1.1.arg i)
  cases hn : nmX (f.2.1.getD 0 []) with
  | none =>
    have zE : rs g (xI (xI g 1003 2 36) 1003 3 (gI g 1003 10)) [2, 3] [] := ((rs.rf g _ _).fI (by decide)).fI (by decide)
    refine v_aload_n X (dk D_Rf_act 0 rfl) rfl ?_
    refine v_getI X (dk D_Rf_act 1 rfl) F_Rf_243 rfl rfl (hS.lt (by decide)) ?_
    rw [hC.1.2.1, show na (f :: r) = na r + f.2.1.length from rfl]
    refine v_iload X (dk D_Rf_act 2 rfl) rfl ?_
    refine v_isub X (dk D_Rf_act 3 rfl) ?_
    rw [show nI (na r + f.2.1.length) - nI (na r) = nI f.2.1.length from by rw [pk_sub (by omega), Nat.add_sub_cancel_left]]
    refine v_istore (lb := [some (.ref 1003), some (.int (nI A.length)), some (.int (nI (hl r).length)), some (.int (nI f.1.length)), some (.int (nI (na r))), some (.int (nI f.2.1.length)), none, none, none]) X (dk D_Rf_act 4 rfl) (by decide) rfl ?_
    refine v_aload_n X (dk D_Rf_act 5 rfl) rfl ?_
    refine v_getF X (dk D_Rf_act 6 rfl) F_Rf_43 rfl rfl (hS.lt (by decide)) (hS.2 1003 25) ?_
    refine v_iload_n X (dk D_Rf_act 7 rfl) rfl ?_
    refine v_iald X (dk D_Rf_act 8 rfl) rfl (hS.lt (by decide)) (vp_in_nI (show A.length < 340 by omega) (by decide)) ?_
    rw [nI_clamp (by omega), hat.2.2.2, hj]
    rw [show nI (bN (some (1048576 + 8))) = 9 from rfl]
    refine v_tableIn (tgt := 307) X (dk D_Rf_act 9 rfl) (by decide) (by decide) rfl (by decide) ?_
    refine v_aload_n X (dk D_Rf_act 123 rfl) rfl ?_
    refine v_aload_n X (dk D_Rf_act 124 rfl) rfl ?_
    refine v_iload X (dk D_Rf_act 125 rfl) rfl ?_
    refine v_iconst (v := nI (0 + 1)) X (dk D_Rf_act 126 rfl) (by decide) ?_
    refine v_invV (As := [.int (nI (na r)), .int (nI (0 + 1))]) (st := [.ref 1003]) X (r_number l q (i := 0) hS hC (by decide)) (dk D_Rf_act 127 rfl) G_Rf_299 K_Rf_number V_Rf_number rfl rfl (hS.lt (by decide)) rfl rfl (Nat.le_of_ble_eq_true rfl) (Nat.le_of_ble_eq_true rfl) (Nat.le_of_ble_eq_true rfl) (Nat.le_of_ble_eq_true rfl) (Nat.le_of_ble_eq_true rfl) ?_
    rintro v w1 ⟨x, rfl, hy1, hy2⟩
    rw [hy2 hn, if_pos he]
    show Vv _ _ _ _ _ _ _ _ _ _ _ _ _ _ _ [.int x, .ref 1003] (0, 0, (xI (xI g 1003 2 36) 1003 3 (gI g 1003 10)))
    refine v_i2l X (dk D_Rf_act 128 rfl) rfl ?_
    refine v_lconst (v := 1) X (dk D_Rf_act 129 rfl) (by decide) ?_
    refine v_lsub X (dk D_Rf_act 130 rfl) ?_
    refine v_invV (As := [.long (x.toInt64 - 1)]) (st := []) X (r_giveIfRightE l q (x := x.toInt64 - 1) (g := (xI (xI g 1003 2 36) 1003 3 (gI g 1003 10))) (zE.S hS) (by rw [gI_nk (by decide), gI_eq]; decide)) (dk D_Rf_act 131 rfl) G_Rf_302 K_Rf_giveIfRight V_Rf_giveIfRight rfl rfl ((zE.S hS).lt (by decide)) rfl rfl (Nat.le_of_ble_eq_true rfl) (Nat.le_of_ble_eq_true rfl) (Nat.le_of_ble_eq_true rfl) (Nat.le_of_ble_eq_true rfl) (Nat.le_of_ble_eq_true rfl) ?_
    rintro v w2 ⟨rfl, hw2⟩
    rw [hw2]
    show Vv _ _ _ _ _ _ _ _ _ _ _ _ _ _ _ [] (0, 0, (xI (xI g 1003 2 36) 1003 3 (gI g 1003 10)))
    refine v_goto (tgt := 417) X (dk D_Rf_act 132 rfl) (by decide) ?_
    exact v_vret X hlk hrt (dk D_Rf_act 179 rfl) ⟨rfl, (zE.mono (by decide) (by decide)), by rw [haX, show bI 8 S f = (36, S, []) from bI_8n hn]; exact AP_e hZ (by decide) zE (by decide) ((gI_nk (by decide)).trans (gI_eq _ _ _ _)) (gI_eq _ _ _ _)⟩
  | some y =>
    refine v_aload_n X (dk D_Rf_act 0 rfl) rfl ?_
    refine v_getI X (dk D_Rf_act 1 rfl) F_Rf_243 rfl rfl (hS.lt (by decide)) ?_
    rw [hC.1.2.1, show na (f :: r) = na r + f.2.1.length from rfl]
    refine v_iload X (dk D_Rf_act 2 rfl) rfl ?_
    refine v_isub X (dk D_Rf_act 3 rfl) ?_
    rw [show nI (na r + f.2.1.length) - nI (na r) = nI f.2.1.length from by rw [pk_sub (by omega), Nat.add_sub_cancel_left]]
    refine v_istore (lb := [some (.ref 1003), some (.int (nI A.length)), some (.int (nI (hl r).length)), some (.int (nI f.1.length)), some (.int (nI (na r))), some (.int (nI f.2.1.length)), none, none, none]) X (dk D_Rf_act 4 rfl) (by decide) rfl ?_
    refine v_aload_n X (dk D_Rf_act 5 rfl) rfl ?_
    refine v_getF X (dk D_Rf_act 6 rfl) F_Rf_43 rfl rfl (hS.lt (by decide)) (hS.2 1003 25) ?_
    refine v_iload_n X (dk D_Rf_act 7 rfl) rfl ?_
    refine v_iald X (dk D_Rf_act 8 rfl) rfl (hS.lt (by decide)) (vp_in_nI (show A.length < 340 by omega) (by decide)) ?_
    rw [nI_clamp (by omega), hat.2.2.2, hj]
    rw [show nI (bN (some (1048576 + 8))) = 9 from rfl]
    refine v_tableIn (tgt := 307) X (dk D_Rf_act 9 rfl) (by decide) (by decide) rfl (by decide) ?_
    refine v_aload_n X (dk D_Rf_act 123 rfl) rfl ?_
    refine v_aload_n X (dk D_Rf_act 124 rfl) rfl ?_
    refine v_iload X (dk D_Rf_act 125 rfl) rfl ?_
    refine v_iconst (v := nI (0 + 1)) X (dk D_Rf_act 126 rfl) (by decide) ?_
    refine v_invV (As := [.int (nI (na r)), .int (nI (0 + 1))]) (st := [.ref 1003]) X (r_number l q (i := 0) hS hC (by decide)) (dk D_Rf_act 127 rfl) G_Rf_299 K_Rf_number V_Rf_number rfl rfl (hS.lt (by decide)) rfl rfl (Nat.le_of_ble_eq_true rfl) (Nat.le_of_ble_eq_true rfl) (Nat.le_of_ble_eq_true rfl) (Nat.le_of_ble_eq_true rfl) (Nat.le_of_ble_eq_true rfl) ?_
    rintro v w1 ⟨x, rfl, hy1, hy2⟩
    obtain ⟨hxy, hw⟩ := hy1 y hn; rw [hw]
    show Vv _ _ _ _ _ _ _ _ _ _ _ _ _ _ _ [.int x, .ref 1003] (0, 0, g)
    refine v_i2l X (dk D_Rf_act 128 rfl) rfl ?_
    refine v_lconst (v := 1) X (dk D_Rf_act 129 rfl) (by decide) ?_
    refine v_lsub X (dk D_Rf_act 130 rfl) ?_
    rw [hxy, (i64_1 (nmX_ne hn)).2]
    refine v_invV (As := [.long (y + -1).toInt64]) (st := []) X (r_giveIfRight l q (x := y + -1) hS hI hG he) (dk D_Rf_act 131 rfl) G_Rf_302 K_Rf_giveIfRight V_Rf_giveIfRight rfl rfl (hS.lt (by decide)) rfl rfl (Nat.le_of_ble_eq_true rfl) (Nat.le_of_ble_eq_true rfl) (Nat.le_of_ble_eq_true rfl) (Nat.le_of_ble_eq_true rfl) (Nat.le_of_ble_eq_true rfl) ?_
    rintro v w2 ⟨rfl, a1, a2⟩
    show Vv _ _ _ _ _ _ _ _ _ _ _ _ _ _ _ [] (0, 0, w2.2.2)
    refine v_goto (tgt := 417) X (dk D_Rf_act 132 rfl) (by decide) ?_
    exact v_vret X hlk hrt (dk D_Rf_act 179 rfl) ⟨rfl, (a1.mono (by decide) (by decide)), by rw [haX, show bI 8 S f = (0, S, [] ++ decB (y + -1)) from bI_8s hn]; exact AP_g hZ a1 a2⟩
set_option maxHeartbeats 4000000 in
set_option maxRecDepth 100000 in
theorem r_act_9 (l : Launch) (q : ev_T) {fu : Nat} {f : Fr} {r : List Fr} {S : Mst} {M A B : List Me} {e : Me} {g : mu_T} (hZ : RZ g fu S) (he : gI g 1003 2 = 0) (hV : GV g []) (hC : AC g f r) (hM : RM g M) (hbd : bnd M) (hdf : S.2.2.2.1.2.1 ≤ 300) (hdb : S.2.2.2.1.2.2 ≤ 16384) (hSe : S.2.2.2.1 = (mgP M, cD M, cB M)) (hMA : M = A ++ e :: B) (he2 : e.2.1 = some (1048576 + 9)) : Ctr l q M_Rf_act 66 [.ref 1003, .int (nI A.length), .int (nI (hl r).length), .int (nI f.1.length), .int (nI (na r))] (0, 0, g) (fun v w => v = none ∧ rs g w.2.2 [2, 3, 4, 8, 9, 10, 11, 13, 15, 20, 21, 27, 28, 29, 32, 33, 39, 40, 41, 42, 43, 44] [1007, 1008, 1010, 1011, 1012, 1013, 1014, 1015, 1016, 1017, 1020, 1021] ∧ AP w.2.2 fu (aX S f e.2)) := by
  have hS := hZ.1
  have hI := hZ.2.1
  have hQ := hZ.2.2.1
  have hby := hZ.2.2.2.1
  have hP := hZ.2.2.2.2.1
  have hD := hZ.2.2.2.2.2
  have hG := GE_nil hI he hV
  have hat := (show RM g (A ++ e :: B) from hMA ▸ hM).at.1
  have hAl : A.length < 317 := by have := hM.2.2.2.2.2.2.1; rw [hMA, List.length_append, List.length_cons] at this; omega
  have hem : e ∈ M := by rw [hMA]; exact List.mem_append_right _ (List.mem_cons_self ..)
  have h16 := hC.1.1.2.2
  have hna : na r + f.2.1.length ≤ 8192 := hC.1.2.2.1
  have hj := he2
  have haX : aX S f e.2 = bI 9 S f := by rw [show e.2 = (some (1048576 + 9), e.2.2) from by rw [← he2], aX, Nat.add_sub_cancel_left]
  refine Ctr.mk (lb := [some (.ref 1003), some (.int (nI A.length)), some (.int (nI (hl r).length)), some (.int (nI f.1.length)), some (.int (nI (na r))), none, none, none, none]) (by decide +kernel) (Nat.le_of_ble_eq_true rfl) rfl rfl ?_
  intro pp ee ss mm aa bb mt cd X hrt hlk hnm
  refine v_inv (fun hBB _ => ?_)
  have hab : ∀ i, ∀ x ∈ f.2.1.getD i [], isByte x := fun i => rw_byte hBB (r := 1018) (N := 16385) rfl (hC.1.1.arg i)
  refine v_aload_n X (dk D_Rf_act 0 rfl) rfl ?_
  refine v_getI X (dk D_Rf_act 1 rfl) F_Rf_243 rfl rfl (hS.lt (by decide)) ?_
  rw [hC.1.2.1, show na (f :: r) = na r + f.2.1.length from rfl]
  refine v_iload X (dk D_Rf_act 2 rfl) rfl ?_
  refine v_isub X (dk D_Rf_act 3 rfl) ?_
  rw [show nI (na r + f.2.1.length) - nI (na r) = nI f.2.1.length from by rw [pk_sub (by omega), Nat.add_sub_cancel_left]]
  refine v_istore (lb := [some (.ref 1003), some (.int (nI A.length)), some (.int (nI (hl r).length)), some (.int (nI f.1.length)), some (.int (nI (na r))), some (.int (nI f.2.1.length)), none, none, none]) X (dk D_Rf_act 4 rfl) (by decide) rfl ?_
  refine v_aload_n X (dk D_Rf_act 5 rfl) rfl ?_
  refine v_getF X (dk D_Rf_act 6 rfl) F_Rf_43 rfl rfl (hS.lt (by decide)) (hS.2 1003 25) ?_
  refine v_iload_n X (dk D_Rf_act 7 rfl) rfl ?_
  refine v_iald X (dk D_Rf_act 8 rfl) rfl (hS.lt (by decide)) (vp_in_nI (show A.length < 340 by omega) (by decide)) ?_
  rw [nI_clamp (by omega), hat.2.2.2, hj]
  rw [show nI (bN (some (1048576 + 9))) = 10 from rfl]
  refine v_tableIn (tgt := 324) X (dk D_Rf_act 9 rfl) (by decide) (by decide) rfl (by decide) ?_
  refine v_aload_n X (dk D_Rf_act 133 rfl) rfl ?_
  refine v_aload_n X (dk D_Rf_act 134 rfl) rfl ?_
  refine v_iload X (dk D_Rf_act 135 rfl) rfl ?_
  refine v_iconst (v := nI (0 + 1)) X (dk D_Rf_act 136 rfl) (by decide) ?_
  refine v_invV (As := [.int (nI (na r)), .int (nI (0 + 1))]) (st := [.ref 1003]) X (r_argumentSize l q (i := 0) hS hC (by omega)) (dk D_Rf_act 137 rfl) G_Rf_272 K_Rf_argumentSize V_Rf_argumentSize rfl rfl (hS.lt (by decide)) rfl rfl (Nat.le_of_ble_eq_true rfl) (Nat.le_of_ble_eq_true rfl) (Nat.le_of_ble_eq_true rfl) (Nat.le_of_ble_eq_true rfl) (Nat.le_of_ble_eq_true rfl) ?_
  rintro v ws ⟨rfl, hws⟩
  rw [hws]
  show Vv _ _ _ _ _ _ _ _ _ _ _ _ _ _ _ [.int (nI (f.2.1.getD 0 []).length), .ref 1003] (0, 0, g)
  refine v_i2l X (dk D_Rf_act 138 rfl) rfl ?_
  refine v_invV (As := [.long (nI (f.2.1.getD 0 []).length).toInt64]) (st := []) X (r_giveNumber l q (x := nI (f.2.1.getD 0 []).length) hS hI hG) (dk D_Rf_act 139 rfl) G_Rf_278 K_Rf_giveNumber V_Rf_giveNumber rfl rfl (hS.lt (by decide)) rfl rfl (Nat.le_of_ble_eq_true rfl) (Nat.le_of_ble_eq_true rfl) (Nat.le_of_ble_eq_true rfl) (Nat.le_of_ble_eq_true rfl) (Nat.le_of_ble_eq_true rfl) ?_
  rintro v w1 ⟨rfl, a1, a2⟩
  show Vv _ _ _ _ _ _ _ _ _ _ _ _ _ _ _ [] (0, 0, w1.2.2)
  refine v_goto (tgt := 417) X (dk D_Rf_act 140 rfl) (by decide) ?_
  exact v_vret X hlk hrt (dk D_Rf_act 179 rfl) ⟨rfl, (a1.mono (by decide) (by decide)), by rw [haX, show bI 9 S f = (0, S, [] ++ decB (nI (f.2.1.getD 0 []).length)) from rfl]; exact AP_g hZ a1 a2⟩
set_option maxHeartbeats 4000000 in
set_option maxRecDepth 100000 in
theorem r_act_10 (l : Launch) (q : ev_T) {fu : Nat} {f : Fr} {r : List Fr} {S : Mst} {M A B : List Me} {e : Me} {g : mu_T} (hZ : RZ g fu S) (he : gI g 1003 2 = 0) (hV : GV g []) (hC : AC g f r) (hM : RM g M) (hbd : bnd M) (hdf : S.2.2.2.1.2.1 ≤ 300) (hdb : S.2.2.2.1.2.2 ≤ 16384) (hSe : S.2.2.2.1 = (mgP M, cD M, cB M)) (hMA : M = A ++ e :: B) (he2 : e.2.1 = some (1048576 + 10)) : Ctr l q M_Rf_act 66 [.ref 1003, .int (nI A.length), .int (nI (hl r).length), .int (nI f.1.length), .int (nI (na r))] (0, 0, g) (fun v w => v = none ∧ rs g w.2.2 [2, 3, 4, 8, 9, 10, 11, 13, 15, 20, 21, 27, 28, 29, 32, 33, 39, 40, 41, 42, 43, 44] [1007, 1008, 1010, 1011, 1012, 1013, 1014, 1015, 1016, 1017, 1020, 1021] ∧ AP w.2.2 fu (aX S f e.2)) := by
  have hS := hZ.1
  have hI := hZ.2.1
  have hQ := hZ.2.2.1
  have hby := hZ.2.2.2.1
  have hP := hZ.2.2.2.2.1
  have hD := hZ.2.2.2.2.2
  have hG := GE_nil hI he hV
  have hat := (show RM g (A ++ e :: B) from hMA ▸ hM).at.1
  have hAl : A.length < 317 := by have := hM.2.2.2.2.2.2.1; rw [hMA, List.length_append, List.length_cons] at this; omega
  have hem : e ∈ M := by rw [hMA]; exact List.mem_append_right _ (List.mem_cons_self ..)
  have h16 := hC.1.1.2.2
  have hna : na r + f.2.1.length ≤ 8192 := hC.1.2.2.1
  have hj := he2
  have haX : aX S f e.2 = bI 10 S f := by rw [show e.2 = (some (1048576 + 10), e.2.2) from by rw [← he2], aX, Nat.add_sub_cancel_left]
  refine Ctr.mk (lb := [some (.ref 1003), some (.int (nI A.length)), some (.int (nI (hl r).length)), some (.int (nI f.1.length)), some (.int (nI (na r))), none, none, none, none]) (by decide +kernel) (Nat.le_of_ble_eq_true rfl) rfl rfl ?_
  intro pp ee ss mm aa bb mt cd X hrt hlk hnm
  refine v_inv (fun hBB _ => ?_)
  have hab : ∀ i, ∀ x ∈ f.2.1.getD i [], isByte x := fun i => rw_byte hBB (r := 1018) (N := 16385) rfl (hC.1.1.arg i)
  refine v_aload_n X (dk D_Rf_act 0 rfl) rfl ?_
  refine v_getI X (dk D_Rf_act 1 rfl) F_Rf_243 rfl rfl (hS.lt (by decide)) ?_
  rw [hC.1.2.1, show na (f :: r) = na r + f.2.1.length from rfl]
  refine v_iload X (dk D_Rf_act 2 rfl) rfl ?_
  refine v_isub X (dk D_Rf_act 3 rfl) ?_
  rw [show nI (na r + f.2.1.length) - nI (na r) = nI f.2.1.length from by rw [pk_sub (by omega), Nat.add_sub_cancel_left]]
  refine v_istore (lb := [some (.ref 1003), some (.int (nI A.length)), some (.int (nI (hl r).length)), some (.int (nI f.1.length)), some (.int (nI (na r))), some (.int (nI f.2.1.length)), none, none, none]) X (dk D_Rf_act 4 rfl) (by decide) rfl ?_
  refine v_aload_n X (dk D_Rf_act 5 rfl) rfl ?_
  refine v_getF X (dk D_Rf_act 6 rfl) F_Rf_43 rfl rfl (hS.lt (by decide)) (hS.2 1003 25) ?_
  refine v_iload_n X (dk D_Rf_act 7 rfl) rfl ?_
  refine v_iald X (dk D_Rf_act 8 rfl) rfl (hS.lt (by decide)) (vp_in_nI (show A.length < 340 by omega) (by decide)) ?_
  rw [nI_clamp (by omega), hat.2.2.2, hj]
  rw [show nI (bN (some (1048576 + 10))) = 11 from rfl]
  refine v_tableIn (tgt := 339) X (dk D_Rf_act 9 rfl) (by decide) (by decide) rfl (by decide) ?_
  refine v_aload_n X (dk D_Rf_act 141 rfl) rfl ?_
  refine v_aload_n X (dk D_Rf_act 142 rfl) rfl ?_
  refine v_iload X (dk D_Rf_act 143 rfl) rfl ?_
  refine v_invV (As := [.int (nI (na r))]) (st := [.ref 1003]) X (r_placeOf l q hS hC) (dk D_Rf_act 144 rfl) G_Rf_305 K_Rf_placeOf V_Rf_placeOf rfl rfl (hS.lt (by decide)) rfl rfl (Nat.le_of_ble_eq_true rfl) (Nat.le_of_ble_eq_true rfl) (Nat.le_of_ble_eq_true rfl) (Nat.le_of_ble_eq_true rfl) (Nat.le_of_ble_eq_true rfl) ?_
  rintro v ws ⟨rfl, hws⟩
  rw [hws]
  show Vv _ _ _ _ _ _ _ _ _ _ _ _ _ _ _ [.int (plc (f.2.1.getD 0 []) (f.2.1.getD 1 [])), .ref 1003] (0, 0, g)
  refine v_i2l X (dk D_Rf_act 145 rfl) rfl ?_
  refine v_invV (As := [.long (plc (f.2.1.getD 0 []) (f.2.1.getD 1 [])).toInt64]) (st := []) X (r_giveNumber l q (x := plc (f.2.1.getD 0 []) (f.2.1.getD 1 [])) hS hI hG) (dk D_Rf_act 146 rfl) G_Rf_278 K_Rf_giveNumber V_Rf_giveNumber rfl rfl (hS.lt (by decide)) rfl rfl (Nat.le_of_ble_eq_true rfl) (Nat.le_of_ble_eq_true rfl) (Nat.le_of_ble_eq_true rfl) (Nat.le_of_ble_eq_true rfl) (Nat.le_of_ble_eq_true rfl) ?_
  rintro v w1 ⟨rfl, a1, a2⟩
  show Vv _ _ _ _ _ _ _ _ _ _ _ _ _ _ _ [] (0, 0, w1.2.2)
  refine v_goto (tgt := 417) X (dk D_Rf_act 147 rfl) (by decide) ?_
  exact v_vret X hlk hrt (dk D_Rf_act 179 rfl) ⟨rfl, (a1.mono (by decide) (by decide)), by rw [haX, show bI 10 S f = (0, S, [] ++ decB (plc (f.2.1.getD 0 []) (f.2.1.getD 1 []))) from rfl]; exact AP_g hZ a1 a2⟩
set_option maxHeartbeats 4000000 in
set_option maxRecDepth 100000 in
theorem r_act_11 (l : Launch) (q : ev_T) {fu : Nat} {f : Fr} {r : List Fr} {S : Mst} {M A B : List Me} {e : Me} {g : mu_T} (hZ : RZ g fu S) (he : gI g 1003 2 = 0) (hV : GV g []) (hC : AC g f r) (hM : RM g M) (hbd : bnd M) (hdf : S.2.2.2.1.2.1 ≤ 300) (hdb : S.2.2.2.1.2.2 ≤ 16384) (hSe : S.2.2.2.1 = (mgP M, cD M, cB M)) (hMA : M = A ++ e :: B) (he2 : e.2.1 = some (1048576 + 11)) : Ctr l q M_Rf_act 66 [.ref 1003, .int (nI A.length), .int (nI (hl r).length), .int (nI f.1.length), .int (nI (na r))] (0, 0, g) (fun v w => v = none ∧ rs g w.2.2 [2, 3, 4, 8, 9, 10, 11, 13, 15, 20, 21, 27, 28, 29, 32, 33, 39, 40, 41, 42, 43, 44] [1007, 1008, 1010, 1011, 1012, 1013, 1014, 1015, 1016, 1017, 1020, 1021] ∧ AP w.2.2 fu (aX S f e.2)) := by
  have hS := hZ.1
  have hI := hZ.2.1
  have hQ := hZ.2.2.1
  have hby := hZ.2.2.2.1
  have hP := hZ.2.2.2.2.1
  have hD := hZ.2.2.2.2.2
  have hG := GE_nil hI he hV
  have hat := (show RM g (A ++ e :: B) from hMA ▸ hM).at.1
  have hAl : A.length < 317 := by have := hM.2.2.2.2.2.2.1; rw [hMA, List.length_append, List.length_cons] at this; omega
  have hem : e ∈ M := by rw [hMA]; exact List.mem_append_right _ (List.mem_cons_self ..)
  have h16 := hC.1.1.2.2
  have hna : na r + f.2.1.length ≤ 8192 := hC.1.2.2.1
  have hj := he2
  have haX : aX S f e.2 = bI 11 S f := by rw [show e.2 = (some (1048576 + 11), e.2.2) from by rw [← he2], aX, Nat.add_sub_cancel_left]
  refine Ctr.mk (lb := [some (.ref 1003), some (.int (nI A.length)), some (.int (nI (hl r).length)), some (.int (nI f.1.length)), some (.int (nI (na r))), none, none, none, none]) (by decide +kernel) (Nat.le_of_ble_eq_true rfl) rfl rfl ?_
  intro pp ee ss mm aa bb mt cd X hrt hlk hnm
  refine v_inv (fun hBB _ => ?_)
  have hab : ∀ i, ∀ x ∈ f.2.1.getD i [], isByte x := fun i => rw_byte hBB (r := 1018) (N := 16385) rfl (hC.1.1.arg i)
  refine v_aload_n X (dk D_Rf_act 0 rfl) rfl ?_
  refine v_getI X (dk D_Rf_act 1 rfl) F_Rf_243 rfl rfl (hS.lt (by decide)) ?_
  rw [hC.1.2.1, show na (f :: r) = na r + f.2.1.length from rfl]
  refine v_iload X (dk D_Rf_act 2 rfl) rfl ?_
  refine v_isub X (dk D_Rf_act 3 rfl) ?_
  rw [show nI (na r + f.2.1.length) - nI (na r) = nI f.2.1.length from by rw [pk_sub (by omega), Nat.add_sub_cancel_left]]
  refine v_istore (lb := [some (.ref 1003), some (.int (nI A.length)), some (.int (nI (hl r).length)), some (.int (nI f.1.length)), some (.int (nI (na r))), some (.int (nI f.2.1.length)), none, none, none]) X (dk D_Rf_act 4 rfl) (by decide) rfl ?_
  refine v_aload_n X (dk D_Rf_act 5 rfl) rfl ?_
  refine v_getF X (dk D_Rf_act 6 rfl) F_Rf_43 rfl rfl (hS.lt (by decide)) (hS.2 1003 25) ?_
  refine v_iload_n X (dk D_Rf_act 7 rfl) rfl ?_
  refine v_iald X (dk D_Rf_act 8 rfl) rfl (hS.lt (by decide)) (vp_in_nI (show A.length < 340 by omega) (by decide)) ?_
  rw [nI_clamp (by omega), hat.2.2.2, hj]
  rw [show nI (bN (some (1048576 + 11))) = 12 from rfl]
  refine v_tableIn (tgt := 353) X (dk D_Rf_act 9 rfl) (by decide) (by decide) rfl (by decide) ?_
  refine v_aload_n X (dk D_Rf_act 148 rfl) rfl ?_
  refine v_iload X (dk D_Rf_act 149 rfl) rfl ?_
  refine v_iload X (dk D_Rf_act 150 rfl) rfl ?_
  refine v_invV (As := [.int (nI (na r)), .int (nI f.2.1.length)]) (st := []) X (r_giveSome l q hS hI hG he hC) (dk D_Rf_act 151 rfl) G_Rf_308 K_Rf_giveSome V_Rf_giveSome rfl rfl (hS.lt (by decide)) rfl rfl (Nat.le_of_ble_eq_true rfl) (Nat.le_of_ble_eq_true rfl) (Nat.le_of_ble_eq_true rfl) (Nat.le_of_ble_eq_true rfl) (Nat.le_of_ble_eq_true rfl) ?_
  rintro v w1 ⟨rfl, a1, a2, a3⟩
  show Vv _ _ _ _ _ _ _ _ _ _ _ _ _ _ _ [] (0, 0, w1.2.2)
  refine v_goto (tgt := 417) X (dk D_Rf_act 152 rfl) (by decide) ?_
  exact v_vret X hlk hrt (dk D_Rf_act 179 rfl) ⟨rfl, (a1.mono (by decide) (by decide)), by rw [haX]; exact AP_s hZ a1 a2 a3⟩
set_option maxHeartbeats 4000000 in
set_option maxRecDepth 100000 in
theorem r_act_12 (l : Launch) (q : ev_T) {fu : Nat} {f : Fr} {r : List Fr} {S : Mst} {M A B : List Me} {e : Me} {g : mu_T} (hZ : RZ g fu S) (he : gI g 1003 2 = 0) (hV : GV g []) (hC : AC g f r) (hM : RM g M) (hbd : bnd M) (hdf : S.2.2.2.1.2.1 ≤ 300) (hdb : S.2.2.2.1.2.2 ≤ 16384) (hSe : S.2.2.2.1 = (mgP M, cD M, cB M)) (hMA : M = A ++ e :: B) (he2 : e.2.1 = some (1048576 + 12)) : Ctr l q M_Rf_act 66 [.ref 1003, .int (nI A.length), .int (nI (hl r).length), .int (nI f.1.length), .int (nI (na r))] (0, 0, g) (fun v w => v = none ∧ rs g w.2.2 [2, 3, 4, 8, 9, 10, 11, 13, 15, 20, 21, 27, 28, 29, 32, 33, 39, 40, 41, 42, 43, 44] [1007, 1008, 1010, 1011, 1012, 1013, 1014, 1015, 1016, 1017, 1020, 1021] ∧ AP w.2.2 fu (aX S f e.2)) := by
  have hS := hZ.1
  have hI := hZ.2.1
  have hQ := hZ.2.2.1
  have hby := hZ.2.2.2.1
  have hP := hZ.2.2.2.2.1
  have hD := hZ.2.2.2.2.2
  have hG := GE_nil hI he hV
  have hat := (show RM g (A ++ e :: B) from hMA ▸ hM).at.1
  have hAl : A.length < 317 := by have := hM.2.2.2.2.2.2.1; rw [hMA, List.length_append, List.length_cons] at this; omega
  have hem : e ∈ M := by rw [hMA]; exact List.mem_append_right _ (List.mem_cons_self ..)
  have h16 := hC.1.1.2.2
  have hna : na r + f.2.1.length ≤ 8192 := hC.1.2.2.1
  have hj := he2
  have haX : aX S f e.2 = bI 12 S f := by rw [show e.2 = (some (1048576 + 12), e.2.2) from by rw [← he2], aX, Nat.add_sub_cancel_left]
  refine Ctr.mk (lb := [some (.ref 1003), some (.int (nI A.length)), some (.int (nI (hl r).length)), some (.int (nI f.1.length)), some (.int (nI (na r))), none, none, none, none]) (by decide +kernel) (Nat.le_of_ble_eq_true rfl) rfl rfl ?_
  intro pp ee ss mm aa bb mt cd X hrt hlk hnm
  refine v_inv (fun hBB _ => ?_)
  have hab : ∀ i, ∀ x ∈ f.2.1.getD i [], isByte x := fun i => rw_byte hBB (r := 1018) (N := 16385) rfl (hC.1.1.arg i)
  have loop : ∀ (d i : Nat) (u : mu_T) (ys : List Int32), f.2.1.length ≤ i + d → 1 ≤ i → i ≤ f.2.1.length + 1 → rs g u [2, 3, 20] [1010] → GE u S.1 ys → ys ++ jnF (qtd true S.2.1.1 S.2.1.2) 2 (i + 1) (f.2.1.drop i) = jn (qtd true S.2.1.1 S.2.1.2) (f.2.1.drop 1) → Vv pp l ee (rmT 66 0 0) ss mm aa bb mt cd 9 q (MQ bb (Qw q (fun v w => v = none ∧ rs g w.2.2 [2, 3, 4, 8, 9, 10, 11, 13, 15, 20, 21, 27, 28, 29, 32, 33, 39, 40, 41, 42, 43, 44] [1007, 1008, 1010, 1011, 1012, 1013, 1014, 1015, 1016, 1017, 1020, 1021] ∧ AP w.2.2 fu (aX S f e.2))) aa ss 0 0 (fun a => q.1 ≤ a)) 367 [some (.ref 1003), some (.int (nI A.length)), some (.int (nI (hl r).length)), some (.int (nI f.1.length)), some (.int (nI (na r))), some (.int (nI f.2.1.length)), none, some (.int (nI (i + 1))), none] [] (0, 0, u) := by
    intro d
    induction d with
    | zero =>
      intro i u ys hid hi1 hil2 hsu hu hy
      have hSu := hsu.S hS
      refine v_iload X (dk D_Rf_act 155 rfl) rfl ?_
      refine v_iload X (dk D_Rf_act 156 rfl) rfl ?_
      refine v_icmp_gt (tgt := 400) X (dk D_Rf_act 157 rfl) (by decide) (fun _ => ?_) (fun c371 => absurd (nI_lt (by omega) (by omega)) c371)
      refine v_goto (tgt := 417) X (dk D_Rf_act 170 rfl) (by decide) ?_
      exact v_vret X hlk hrt (dk D_Rf_act 179 rfl) ⟨rfl, (hsu.mono (by decide) (by decide)), by rw [haX, show bI 12 S f = (0, S, jn (qtd true S.2.1.1 S.2.1.2) (f.2.1.drop 1)) from rfl, ← hy, List.drop_eq_nil_of_le (by omega), jnF, List.append_nil]; exact AP_g hZ hsu hu⟩
    | succ d ihj =>
      intro i u ys hid hi1 hil2 hsu hu hy
      have hSu := hsu.S hS
      by_cases hil : i < f.2.1.length
      · by_cases c1 : i = 1
        · skip
          refine v_iload X (dk D_Rf_act 155 rfl) rfl ?_
          refine v_iload X (dk D_Rf_act 156 rfl) rfl ?_
          refine v_icmp_gt (tgt := 400) X (dk D_Rf_act 157 rfl) (by decide) (fun c371 => absurd c371 (fun z => absurd ((nI_ltI (by omega) (by omega)).mp z) (by omega))) (fun _ => ?_)
          refine v_iload X (dk D_Rf_act 158 rfl) rfl ?_
          refine v_iconst (v := 2) X (dk D_Rf_act 159 rfl) (by decide) ?_
          refine v_icmp_le (tgt := 386) X (dk D_Rf_act 160 rfl) (by decide) (fun _ => ?_) (fun c377 => absurd (nI_le (b := 2) (by omega) (by decide)) c377)
          refine v_aload_n X (dk D_Rf_act 164 rfl) rfl ?_
          refine v_iload X (dk D_Rf_act 165 rfl) rfl ?_
          refine v_iload X (dk D_Rf_act 166 rfl) rfl ?_
          refine v_invV (As := [.int (nI (na r)), .int (nI (i + 1))]) (st := []) X (r_giveQuoted l q (i := i) hSu (hI.kg hsu) hu (hC.kg hsu) (hQ.kg hsu) hby.1 hby.2 (by omega)) (dk D_Rf_act 167 rfl) G_Rf_282 K_Rf_giveQuotedArgument V_Rf_giveQuotedArgument rfl rfl (hSu.lt (by decide)) rfl rfl (Nat.le_of_ble_eq_true rfl) (Nat.le_of_ble_eq_true rfl) (Nat.le_of_ble_eq_true rfl) (Nat.le_of_ble_eq_true rfl) (Nat.le_of_ble_eq_true rfl) ?_
          rintro v w2 ⟨rfl, b1, b2⟩
          show Vv _ _ _ _ _ _ _ _ _ _ _ _ _ _ _ [] (0, 0, w2.2.2)
          refine v_iinc (v := nI (i + 1 + 1)) (lb := [some (.ref 1003), some (.int (nI A.length)), some (.int (nI (hl r).length)), some (.int (nI f.1.length)), some (.int (nI (na r))), some (.int (nI f.2.1.length)), none, some (.int (nI (i + 1 + 1))), none]) X (dk D_Rf_act 168 rfl) rfl (nI_1 _) (by decide) rfl ?_
          refine v_goto (tgt := 367) X (dk D_Rf_act 169 rfl) (by decide) ?_
          exact ihj (i + 1) w2.2.2 (ys ++ (qtd true S.2.1.1 S.2.1.2) (f.2.1.getD i [])) (by omega) (by omega) (by omega) (hsu.tr b1) b2 (by rw [← hy, drop_getL hil, jnF, if_neg (by omega)]; simp only [List.append_assoc, List.cons_append, List.nil_append])
        · skip
          refine v_iload X (dk D_Rf_act 155 rfl) rfl ?_
          refine v_iload X (dk D_Rf_act 156 rfl) rfl ?_
          refine v_icmp_gt (tgt := 400) X (dk D_Rf_act 157 rfl) (by decide) (fun c371 => absurd c371 (fun z => absurd ((nI_ltI (by omega) (by omega)).mp z) (by omega))) (fun _ => ?_)
          refine v_iload X (dk D_Rf_act 158 rfl) rfl ?_
          refine v_iconst (v := 2) X (dk D_Rf_act 159 rfl) (by decide) ?_
          refine v_icmp_le (tgt := 386) X (dk D_Rf_act 160 rfl) (by decide) (fun c377 => absurd c377 (fun z => absurd ((nI_leI (b := 2) (by omega) (by decide)).mp z) (by omega))) (fun _ => ?_)
          refine v_aload_n X (dk D_Rf_act 161 rfl) rfl ?_
          refine v_bipush (v := 44) X (dk D_Rf_act 162 rfl) (by decide) ?_
          refine v_invV (As := [.int 44]) (st := []) X (r_give l q (x := 44) hSu (hI.kg hsu) hu) (dk D_Rf_act 163 rfl) G_Rf_145 K_Rf_give V_Rf_give rfl rfl (hSu.lt (by decide)) rfl rfl (Nat.le_of_ble_eq_true rfl) (Nat.le_of_ble_eq_true rfl) (Nat.le_of_ble_eq_true rfl) (Nat.le_of_ble_eq_true rfl) (Nat.le_of_ble_eq_true rfl) ?_
          rintro v w1 ⟨rfl, a1, a2⟩
          have hS1 := (hsu.tr a1).S hS
          show Vv _ _ _ _ _ _ _ _ _ _ _ _ _ _ _ [] (0, 0, w1.2.2)
          refine v_aload_n X (dk D_Rf_act 164 rfl) rfl ?_
          refine v_iload X (dk D_Rf_act 165 rfl) rfl ?_
          refine v_iload X (dk D_Rf_act 166 rfl) rfl ?_
          refine v_invV (As := [.int (nI (na r)), .int (nI (i + 1))]) (st := []) X (r_giveQuoted l q (i := i) hS1 (hI.kg (hsu.tr a1)) a2 (hC.kg (hsu.tr a1)) (hQ.kg (hsu.tr a1)) hby.1 hby.2 (by omega)) (dk D_Rf_act 167 rfl) G_Rf_282 K_Rf_giveQuotedArgument V_Rf_giveQuotedArgument rfl rfl (hS1.lt (by decide)) rfl rfl (Nat.le_of_ble_eq_true rfl) (Nat.le_of_ble_eq_true rfl) (Nat.le_of_ble_eq_true rfl) (Nat.le_of_ble_eq_true rfl) (Nat.le_of_ble_eq_true rfl) ?_
          rintro v w2 ⟨rfl, b1, b2⟩
          show Vv _ _ _ _ _ _ _ _ _ _ _ _ _ _ _ [] (0, 0, w2.2.2)
          refine v_iinc (v := nI (i + 1 + 1)) (lb := [some (.ref 1003), some (.int (nI A.length)), some (.int (nI (hl r).length)), some (.int (nI f.1.length)), some (.int (nI (na r))), some (.int (nI f.2.1.length)), none, some (.int (nI (i + 1 + 1))), none]) X (dk D_Rf_act 168 rfl) rfl (nI_1 _) (by decide) rfl ?_
          refine v_goto (tgt := 367) X (dk D_Rf_act 169 rfl) (by decide) ?_
          exact ihj (i + 1) w2.2.2 (ys ++ [44] ++ (qtd true S.2.1.1 S.2.1.2) (f.2.1.getD i [])) (by omega) (by omega) (by omega) ((hsu.tr a1).tr b1) b2 (by rw [← hy, drop_getL hil, jnF, if_pos (by omega)]; simp only [List.append_assoc, List.cons_append, List.nil_append])
      · skip
        refine v_iload X (dk D_Rf_act 155 rfl) rfl ?_
        refine v_iload X (dk D_Rf_act 156 rfl) rfl ?_
        refine v_icmp_gt (tgt := 400) X (dk D_Rf_act 157 rfl) (by decide) (fun _ => ?_) (fun c371 => absurd (nI_lt (by omega) (by omega)) c371)
        refine v_goto (tgt := 417) X (dk D_Rf_act 170 rfl) (by decide) ?_
        exact v_vret X hlk hrt (dk D_Rf_act 179 rfl) ⟨rfl, (hsu.mono (by decide) (by decide)), by rw [haX, show bI 12 S f = (0, S, jn (qtd true S.2.1.1 S.2.1.2) (f.2.1.drop 1)) from rfl, ← hy, List.drop_eq_nil_of_le (by omega), jnF, List.append_nil]; exact AP_g hZ hsu hu⟩
  refine v_aload_n X (dk D_Rf_act 0 rfl) rfl ?_
  refine v_getI X (dk D_Rf_act 1 rfl) F_Rf_243 rfl rfl (hS.lt (by decide)) ?_
  rw [hC.1.2.1, show na (f :: r) = na r + f.2.1.length from rfl]
  refine v_iload X (dk D_Rf_act 2 rfl) rfl ?_
  refine v_isub X (dk D_Rf_act 3 rfl) ?_
  rw [show nI (na r + f.2.1.length) - nI (na r) = nI f.2.1.length from by rw [pk_sub (by omega), Nat.add_sub_cancel_left]]
  refine v_istore (lb := [some (.ref 1003), some (.int (nI A.length)), some (.int (nI (hl r).length)), some (.int (nI f.1.length)), some (.int (nI (na r))), some (.int (nI f.2.1.length)), none, none, none]) X (dk D_Rf_act 4 rfl) (by decide) rfl ?_
  refine v_aload_n X (dk D_Rf_act 5 rfl) rfl ?_
  refine v_getF X (dk D_Rf_act 6 rfl) F_Rf_43 rfl rfl (hS.lt (by decide)) (hS.2 1003 25) ?_
  refine v_iload_n X (dk D_Rf_act 7 rfl) rfl ?_
  refine v_iald X (dk D_Rf_act 8 rfl) rfl (hS.lt (by decide)) (vp_in_nI (show A.length < 340 by omega) (by decide)) ?_
  rw [nI_clamp (by omega), hat.2.2.2, hj]
  rw [show nI (bN (some (1048576 + 12))) = 13 from rfl]
  refine v_tableIn (tgt := 364) X (dk D_Rf_act 9 rfl) (by decide) (by decide) rfl (by decide) ?_
  refine v_iconst (v := nI (1 + 1)) X (dk D_Rf_act 153 rfl) (by decide) ?_
  refine v_istore (lb := [some (.ref 1003), some (.int (nI A.length)), some (.int (nI (hl r).length)), some (.int (nI f.1.length)), some (.int (nI (na r))), some (.int (nI f.2.1.length)), none, some (.int (nI (1 + 1))), none]) X (dk D_Rf_act 154 rfl) (by decide) rfl ?_
  exact loop f.2.1.length 1 g [] (by omega) (by omega) (by omega) (rs.rf g _ _) hG (by rw [List.nil_append]; exact jnF_jn)
set_option maxHeartbeats 4000000 in
set_option maxRecDepth 100000 in
theorem r_act_13 (l : Launch) (q : ev_T) {fu : Nat} {f : Fr} {r : List Fr} {S : Mst} {M A B : List Me} {e : Me} {g : mu_T} (hZ : RZ g fu S) (he : gI g 1003 2 = 0) (hV : GV g []) (hC : AC g f r) (hM : RM g M) (hbd : bnd M) (hdf : S.2.2.2.1.2.1 ≤ 300) (hdb : S.2.2.2.1.2.2 ≤ 16384) (hSe : S.2.2.2.1 = (mgP M, cD M, cB M)) (hMA : M = A ++ e :: B) (he2 : e.2.1 = some (1048576 + 13)) : Ctr l q M_Rf_act 66 [.ref 1003, .int (nI A.length), .int (nI (hl r).length), .int (nI f.1.length), .int (nI (na r))] (0, 0, g) (fun v w => v = none ∧ rs g w.2.2 [2, 3, 4, 8, 9, 10, 11, 13, 15, 20, 21, 27, 28, 29, 32, 33, 39, 40, 41, 42, 43, 44] [1007, 1008, 1010, 1011, 1012, 1013, 1014, 1015, 1016, 1017, 1020, 1021] ∧ AP w.2.2 fu (aX S f e.2)) := by
  have hS := hZ.1
  have hI := hZ.2.1
  have hQ := hZ.2.2.1
  have hby := hZ.2.2.2.1
  have hP := hZ.2.2.2.2.1
  have hD := hZ.2.2.2.2.2
  have hG := GE_nil hI he hV
  have hat := (show RM g (A ++ e :: B) from hMA ▸ hM).at.1
  have hAl : A.length < 317 := by have := hM.2.2.2.2.2.2.1; rw [hMA, List.length_append, List.length_cons] at this; omega
  have hem : e ∈ M := by rw [hMA]; exact List.mem_append_right _ (List.mem_cons_self ..)
  have h16 := hC.1.1.2.2
  have hna : na r + f.2.1.length ≤ 8192 := hC.1.2.2.1
  have hj := he2
  have haX : aX S f e.2 = bI 13 S f := by rw [show e.2 = (some (1048576 + 13), e.2.2) from by rw [← he2], aX, Nat.add_sub_cancel_left]
  refine Ctr.mk (lb := [some (.ref 1003), some (.int (nI A.length)), some (.int (nI (hl r).length)), some (.int (nI f.1.length)), some (.int (nI (na r))), none, none, none, none]) (by decide +kernel) (Nat.le_of_ble_eq_true rfl) rfl rfl ?_
  intro pp ee ss mm aa bb mt cd X hrt hlk hnm
  refine v_inv (fun hBB _ => ?_)
  have hab : ∀ i, ∀ x ∈ f.2.1.getD i [], isByte x := fun i => rw_byte hBB (r := 1018) (N := 16385) rfl (hC.1.1.arg i)
  refine v_aload_n X (dk D_Rf_act 0 rfl) rfl ?_
  refine v_getI X (dk D_Rf_act 1 rfl) F_Rf_243 rfl rfl (hS.lt (by decide)) ?_
  rw [hC.1.2.1, show na (f :: r) = na r + f.2.1.length from rfl]
  refine v_iload X (dk D_Rf_act 2 rfl) rfl ?_
  refine v_isub X (dk D_Rf_act 3 rfl) ?_
  rw [show nI (na r + f.2.1.length) - nI (na r) = nI f.2.1.length from by rw [pk_sub (by omega), Nat.add_sub_cancel_left]]
  refine v_istore (lb := [some (.ref 1003), some (.int (nI A.length)), some (.int (nI (hl r).length)), some (.int (nI f.1.length)), some (.int (nI (na r))), some (.int (nI f.2.1.length)), none, none, none]) X (dk D_Rf_act 4 rfl) (by decide) rfl ?_
  refine v_aload_n X (dk D_Rf_act 5 rfl) rfl ?_
  refine v_getF X (dk D_Rf_act 6 rfl) F_Rf_43 rfl rfl (hS.lt (by decide)) (hS.2 1003 25) ?_
  refine v_iload_n X (dk D_Rf_act 7 rfl) rfl ?_
  refine v_iald X (dk D_Rf_act 8 rfl) rfl (hS.lt (by decide)) (vp_in_nI (show A.length < 340 by omega) (by decide)) ?_
  rw [nI_clamp (by omega), hat.2.2.2, hj]
  rw [show nI (bN (some (1048576 + 13))) = 14 from rfl]
  refine v_tableOut (tgt := 403) X (dk D_Rf_act 9 rfl) (by decide) (by decide) ?_
  refine v_aload_n X (dk D_Rf_act 171 rfl) rfl ?_
  refine v_aload_n X (dk D_Rf_act 172 rfl) rfl ?_
  refine v_getF X (dk D_Rf_act 173 rfl) F_Rf_43 rfl rfl (hS.lt (by decide)) (hS.2 1003 25) ?_
  refine v_iload_n X (dk D_Rf_act 174 rfl) rfl ?_
  refine v_iald X (dk D_Rf_act 175 rfl) rfl (hS.lt (by decide)) (vp_in_nI (show A.length < 340 by omega) (by decide)) ?_
  rw [nI_clamp (by omega), hat.2.2.2, hj]
  rw [show nI (bN (some (1048576 + 13))) = 14 from rfl]
  refine v_iload X (dk D_Rf_act 176 rfl) rfl ?_
  refine v_iload X (dk D_Rf_act 177 rfl) rfl ?_
  refine v_invV (As := [.int 14, .int (nI (na r)), .int (nI f.2.1.length)]) (st := []) X (r_actDnl l q (f := f) (r := r) hS hI he) (dk D_Rf_act 178 rfl) G_Rf_311 K_Rf_actOnInput V_Rf_actOnInput rfl rfl (hS.lt (by decide)) rfl rfl (Nat.le_of_ble_eq_true rfl) (Nat.le_of_ble_eq_true rfl) (Nat.le_of_ble_eq_true rfl) (Nat.le_of_ble_eq_true rfl) (Nat.le_of_ble_eq_true rfl) ?_
  rintro v w1 ⟨rfl, a1, a2, a3, a4⟩
  show Vv _ _ _ _ _ _ _ _ _ _ _ _ _ _ _ [] (0, 0, w1.2.2)
  exact v_vret X hlk hrt (dk D_Rf_act 179 rfl) ⟨rfl, (a1.mono (by decide) (by decide)), by rw [haX]; exact AP_n hZ hV a1 a2 a3 a4⟩
set_option maxHeartbeats 4000000 in
set_option maxRecDepth 100000 in
theorem r_act_14 (l : Launch) (q : ev_T) {fu : Nat} {f : Fr} {r : List Fr} {S : Mst} {M A B : List Me} {e : Me} {g : mu_T} (hZ : RZ g fu S) (he : gI g 1003 2 = 0) (hV : GV g []) (hC : AC g f r) (hM : RM g M) (hbd : bnd M) (hdf : S.2.2.2.1.2.1 ≤ 300) (hdb : S.2.2.2.1.2.2 ≤ 16384) (hSe : S.2.2.2.1 = (mgP M, cD M, cB M)) (hMA : M = A ++ e :: B) (he2 : e.2.1 = some (1048576 + 14)) : Ctr l q M_Rf_act 66 [.ref 1003, .int (nI A.length), .int (nI (hl r).length), .int (nI f.1.length), .int (nI (na r))] (0, 0, g) (fun v w => v = none ∧ rs g w.2.2 [2, 3, 4, 8, 9, 10, 11, 13, 15, 20, 21, 27, 28, 29, 32, 33, 39, 40, 41, 42, 43, 44] [1007, 1008, 1010, 1011, 1012, 1013, 1014, 1015, 1016, 1017, 1020, 1021] ∧ AP w.2.2 fu (aX S f e.2)) := by
  have hS := hZ.1
  have hI := hZ.2.1
  have hQ := hZ.2.2.1
  have hby := hZ.2.2.2.1
  have hP := hZ.2.2.2.2.1
  have hD := hZ.2.2.2.2.2
  have hG := GE_nil hI he hV
  have hat := (show RM g (A ++ e :: B) from hMA ▸ hM).at.1
  have hAl : A.length < 317 := by have := hM.2.2.2.2.2.2.1; rw [hMA, List.length_append, List.length_cons] at this; omega
  have hem : e ∈ M := by rw [hMA]; exact List.mem_append_right _ (List.mem_cons_self ..)
  have h16 := hC.1.1.2.2
  have hna : na r + f.2.1.length ≤ 8192 := hC.1.2.2.1
  have hj := he2
  have haX : aX S f e.2 = bI 14 S f := by rw [show e.2 = (some (1048576 + 14), e.2.2) from by rw [← he2], aX, Nat.add_sub_cancel_left]
  refine Ctr.mk (lb := [some (.ref 1003), some (.int (nI A.length)), some (.int (nI (hl r).length)), some (.int (nI f.1.length)), some (.int (nI (na r))), none, none, none, none]) (by decide +kernel) (Nat.le_of_ble_eq_true rfl) rfl rfl ?_
  intro pp ee ss mm aa bb mt cd X hrt hlk hnm
  refine v_inv (fun hBB _ => ?_)
  have hab : ∀ i, ∀ x ∈ f.2.1.getD i [], isByte x := fun i => rw_byte hBB (r := 1018) (N := 16385) rfl (hC.1.1.arg i)
  refine v_aload_n X (dk D_Rf_act 0 rfl) rfl ?_
  refine v_getI X (dk D_Rf_act 1 rfl) F_Rf_243 rfl rfl (hS.lt (by decide)) ?_
  rw [hC.1.2.1, show na (f :: r) = na r + f.2.1.length from rfl]
  refine v_iload X (dk D_Rf_act 2 rfl) rfl ?_
  refine v_isub X (dk D_Rf_act 3 rfl) ?_
  rw [show nI (na r + f.2.1.length) - nI (na r) = nI f.2.1.length from by rw [pk_sub (by omega), Nat.add_sub_cancel_left]]
  refine v_istore (lb := [some (.ref 1003), some (.int (nI A.length)), some (.int (nI (hl r).length)), some (.int (nI f.1.length)), some (.int (nI (na r))), some (.int (nI f.2.1.length)), none, none, none]) X (dk D_Rf_act 4 rfl) (by decide) rfl ?_
  refine v_aload_n X (dk D_Rf_act 5 rfl) rfl ?_
  refine v_getF X (dk D_Rf_act 6 rfl) F_Rf_43 rfl rfl (hS.lt (by decide)) (hS.2 1003 25) ?_
  refine v_iload_n X (dk D_Rf_act 7 rfl) rfl ?_
  refine v_iald X (dk D_Rf_act 8 rfl) rfl (hS.lt (by decide)) (vp_in_nI (show A.length < 340 by omega) (by decide)) ?_
  rw [nI_clamp (by omega), hat.2.2.2, hj]
  rw [show nI (bN (some (1048576 + 14))) = 15 from rfl]
  refine v_tableOut (tgt := 403) X (dk D_Rf_act 9 rfl) (by decide) (by decide) ?_
  refine v_aload_n X (dk D_Rf_act 171 rfl) rfl ?_
  refine v_aload_n X (dk D_Rf_act 172 rfl) rfl ?_
  refine v_getF X (dk D_Rf_act 173 rfl) F_Rf_43 rfl rfl (hS.lt (by decide)) (hS.2 1003 25) ?_
  refine v_iload_n X (dk D_Rf_act 174 rfl) rfl ?_
  refine v_iald X (dk D_Rf_act 175 rfl) rfl (hS.lt (by decide)) (vp_in_nI (show A.length < 340 by omega) (by decide)) ?_
  rw [nI_clamp (by omega), hat.2.2.2, hj]
  rw [show nI (bN (some (1048576 + 14))) = 15 from rfl]
  refine v_iload X (dk D_Rf_act 176 rfl) rfl ?_
  refine v_iload X (dk D_Rf_act 177 rfl) rfl ?_
  refine v_invV (As := [.int 15, .int (nI (na r)), .int (nI f.2.1.length)]) (st := []) X (r_actDivert l q hS he hC hD) (dk D_Rf_act 178 rfl) G_Rf_311 K_Rf_actOnInput V_Rf_actOnInput rfl rfl (hS.lt (by decide)) rfl rfl (Nat.le_of_ble_eq_true rfl) (Nat.le_of_ble_eq_true rfl) (Nat.le_of_ble_eq_true rfl) (Nat.le_of_ble_eq_true rfl) (Nat.le_of_ble_eq_true rfl) ?_
  rintro v w1 ⟨rfl, a1, a2, a3, a4⟩
  show Vv _ _ _ _ _ _ _ _ _ _ _ _ _ _ _ [] (0, 0, w1.2.2)
  exact v_vret X hlk hrt (dk D_Rf_act 179 rfl) ⟨rfl, (a1.mono (by decide) (by decide)), by rw [haX]; exact AP_t hZ hV a1 a2 a3 a4⟩
set_option maxHeartbeats 4000000 in
set_option maxRecDepth 100000 in
theorem r_act_15 (l : Launch) (q : ev_T) {fu : Nat} {f : Fr} {r : List Fr} {S : Mst} {M A B : List Me} {e : Me} {g : mu_T} (hZ : RZ g fu S) (he : gI g 1003 2 = 0) (hV : GV g []) (hC : AC g f r) (hM : RM g M) (hbd : bnd M) (hdf : S.2.2.2.1.2.1 ≤ 300) (hdb : S.2.2.2.1.2.2 ≤ 16384) (hSe : S.2.2.2.1 = (mgP M, cD M, cB M)) (hMA : M = A ++ e :: B) (he2 : e.2.1 = some (1048576 + 15)) : Ctr l q M_Rf_act 66 [.ref 1003, .int (nI A.length), .int (nI (hl r).length), .int (nI f.1.length), .int (nI (na r))] (0, 0, g) (fun v w => v = none ∧ rs g w.2.2 [2, 3, 4, 8, 9, 10, 11, 13, 15, 20, 21, 27, 28, 29, 32, 33, 39, 40, 41, 42, 43, 44] [1007, 1008, 1010, 1011, 1012, 1013, 1014, 1015, 1016, 1017, 1020, 1021] ∧ AP w.2.2 fu (aX S f e.2)) := by
  have hS := hZ.1
  have hI := hZ.2.1
  have hQ := hZ.2.2.1
  have hby := hZ.2.2.2.1
  have hP := hZ.2.2.2.2.1
  have hD := hZ.2.2.2.2.2
  have hG := GE_nil hI he hV
  have hat := (show RM g (A ++ e :: B) from hMA ▸ hM).at.1
  have hAl : A.length < 317 := by have := hM.2.2.2.2.2.2.1; rw [hMA, List.length_append, List.length_cons] at this; omega
  have hem : e ∈ M := by rw [hMA]; exact List.mem_append_right _ (List.mem_cons_self ..)
  have h16 := hC.1.1.2.2
  have hna : na r + f.2.1.length ≤ 8192 := hC.1.2.2.1
  have hj := he2
  have haX : aX S f e.2 = bI 15 S f := by rw [show e.2 = (some (1048576 + 15), e.2.2) from by rw [← he2], aX, Nat.add_sub_cancel_left]
  refine Ctr.mk (lb := [some (.ref 1003), some (.int (nI A.length)), some (.int (nI (hl r).length)), some (.int (nI f.1.length)), some (.int (nI (na r))), none, none, none, none]) (by decide +kernel) (Nat.le_of_ble_eq_true rfl) rfl rfl ?_
  intro pp ee ss mm aa bb mt cd X hrt hlk hnm
  refine v_inv (fun hBB _ => ?_)
  have hab : ∀ i, ∀ x ∈ f.2.1.getD i [], isByte x := fun i => rw_byte hBB (r := 1018) (N := 16385) rfl (hC.1.1.arg i)
  refine v_aload_n X (dk D_Rf_act 0 rfl) rfl ?_
  refine v_getI X (dk D_Rf_act 1 rfl) F_Rf_243 rfl rfl (hS.lt (by decide)) ?_
  rw [hC.1.2.1, show na (f :: r) = na r + f.2.1.length from rfl]
  refine v_iload X (dk D_Rf_act 2 rfl) rfl ?_
  refine v_isub X (dk D_Rf_act 3 rfl) ?_
  rw [show nI (na r + f.2.1.length) - nI (na r) = nI f.2.1.length from by rw [pk_sub (by omega), Nat.add_sub_cancel_left]]
  refine v_istore (lb := [some (.ref 1003), some (.int (nI A.length)), some (.int (nI (hl r).length)), some (.int (nI f.1.length)), some (.int (nI (na r))), some (.int (nI f.2.1.length)), none, none, none]) X (dk D_Rf_act 4 rfl) (by decide) rfl ?_
  refine v_aload_n X (dk D_Rf_act 5 rfl) rfl ?_
  refine v_getF X (dk D_Rf_act 6 rfl) F_Rf_43 rfl rfl (hS.lt (by decide)) (hS.2 1003 25) ?_
  refine v_iload_n X (dk D_Rf_act 7 rfl) rfl ?_
  refine v_iald X (dk D_Rf_act 8 rfl) rfl (hS.lt (by decide)) (vp_in_nI (show A.length < 340 by omega) (by decide)) ?_
  rw [nI_clamp (by omega), hat.2.2.2, hj]
  rw [show nI (bN (some (1048576 + 15))) = 16 from rfl]
  refine v_tableOut (tgt := 403) X (dk D_Rf_act 9 rfl) (by decide) (by decide) ?_
  refine v_aload_n X (dk D_Rf_act 171 rfl) rfl ?_
  refine v_aload_n X (dk D_Rf_act 172 rfl) rfl ?_
  refine v_getF X (dk D_Rf_act 173 rfl) F_Rf_43 rfl rfl (hS.lt (by decide)) (hS.2 1003 25) ?_
  refine v_iload_n X (dk D_Rf_act 174 rfl) rfl ?_
  refine v_iald X (dk D_Rf_act 175 rfl) rfl (hS.lt (by decide)) (vp_in_nI (show A.length < 340 by omega) (by decide)) ?_
  rw [nI_clamp (by omega), hat.2.2.2, hj]
  rw [show nI (bN (some (1048576 + 15))) = 16 from rfl]
  refine v_iload X (dk D_Rf_act 176 rfl) rfl ?_
  refine v_iload X (dk D_Rf_act 177 rfl) rfl ?_
  refine v_invV (As := [.int 16, .int (nI (na r)), .int (nI f.2.1.length)]) (st := []) X (r_actUndivert l q hS he hC hD) (dk D_Rf_act 178 rfl) G_Rf_311 K_Rf_actOnInput V_Rf_actOnInput rfl rfl (hS.lt (by decide)) rfl rfl (Nat.le_of_ble_eq_true rfl) (Nat.le_of_ble_eq_true rfl) (Nat.le_of_ble_eq_true rfl) (Nat.le_of_ble_eq_true rfl) (Nat.le_of_ble_eq_true rfl) ?_
  rintro v w1 ⟨rfl, a1, a2, a3, a4⟩
  show Vv _ _ _ _ _ _ _ _ _ _ _ _ _ _ _ [] (0, 0, w1.2.2)
  exact v_vret X hlk hrt (dk D_Rf_act 179 rfl) ⟨rfl, (a1.mono (by decide) (by decide)), by rw [haX]; exact AP_i hZ hV a1 a2 a3 a4⟩
set_option maxHeartbeats 4000000 in
set_option maxRecDepth 100000 in
theorem r_act_16 (l : Launch) (q : ev_T) {fu : Nat} {f : Fr} {r : List Fr} {S : Mst} {M A B : List Me} {e : Me} {g : mu_T} (hZ : RZ g fu S) (he : gI g 1003 2 = 0) (hV : GV g []) (hC : AC g f r) (hM : RM g M) (hbd : bnd M) (hdf : S.2.2.2.1.2.1 ≤ 300) (hdb : S.2.2.2.1.2.2 ≤ 16384) (hSe : S.2.2.2.1 = (mgP M, cD M, cB M)) (hMA : M = A ++ e :: B) (he2 : e.2.1 = some (1048576 + 16)) : Ctr l q M_Rf_act 66 [.ref 1003, .int (nI A.length), .int (nI (hl r).length), .int (nI f.1.length), .int (nI (na r))] (0, 0, g) (fun v w => v = none ∧ rs g w.2.2 [2, 3, 4, 8, 9, 10, 11, 13, 15, 20, 21, 27, 28, 29, 32, 33, 39, 40, 41, 42, 43, 44] [1007, 1008, 1010, 1011, 1012, 1013, 1014, 1015, 1016, 1017, 1020, 1021] ∧ AP w.2.2 fu (aX S f e.2)) := by
  have hS := hZ.1
  have hI := hZ.2.1
  have hQ := hZ.2.2.1
  have hby := hZ.2.2.2.1
  have hP := hZ.2.2.2.2.1
  have hD := hZ.2.2.2.2.2
  have hG := GE_nil hI he hV
  have hat := (show RM g (A ++ e :: B) from hMA ▸ hM).at.1
  have hAl : A.length < 317 := by have := hM.2.2.2.2.2.2.1; rw [hMA, List.length_append, List.length_cons] at this; omega
  have hem : e ∈ M := by rw [hMA]; exact List.mem_append_right _ (List.mem_cons_self ..)
  have h16 := hC.1.1.2.2
  have hna : na r + f.2.1.length ≤ 8192 := hC.1.2.2.1
  have hj := he2
  have haX : aX S f e.2 = bI 16 S f := by rw [show e.2 = (some (1048576 + 16), e.2.2) from by rw [← he2], aX, Nat.add_sub_cancel_left]
  refine Ctr.mk (lb := [some (.ref 1003), some (.int (nI A.length)), some (.int (nI (hl r).length)), some (.int (nI f.1.length)), some (.int (nI (na r))), none, none, none, none]) (by decide +kernel) (Nat.le_of_ble_eq_true rfl) rfl rfl ?_
  intro pp ee ss mm aa bb mt cd X hrt hlk hnm
  refine v_inv (fun hBB _ => ?_)
  have hab : ∀ i, ∀ x ∈ f.2.1.getD i [], isByte x := fun i => rw_byte hBB (r := 1018) (N := 16385) rfl (hC.1.1.arg i)
  refine v_aload_n X (dk D_Rf_act 0 rfl) rfl ?_
  refine v_getI X (dk D_Rf_act 1 rfl) F_Rf_243 rfl rfl (hS.lt (by decide)) ?_
  rw [hC.1.2.1, show na (f :: r) = na r + f.2.1.length from rfl]
  refine v_iload X (dk D_Rf_act 2 rfl) rfl ?_
  refine v_isub X (dk D_Rf_act 3 rfl) ?_
  rw [show nI (na r + f.2.1.length) - nI (na r) = nI f.2.1.length from by rw [pk_sub (by omega), Nat.add_sub_cancel_left]]
  refine v_istore (lb := [some (.ref 1003), some (.int (nI A.length)), some (.int (nI (hl r).length)), some (.int (nI f.1.length)), some (.int (nI (na r))), some (.int (nI f.2.1.length)), none, none, none]) X (dk D_Rf_act 4 rfl) (by decide) rfl ?_
  refine v_aload_n X (dk D_Rf_act 5 rfl) rfl ?_
  refine v_getF X (dk D_Rf_act 6 rfl) F_Rf_43 rfl rfl (hS.lt (by decide)) (hS.2 1003 25) ?_
  refine v_iload_n X (dk D_Rf_act 7 rfl) rfl ?_
  refine v_iald X (dk D_Rf_act 8 rfl) rfl (hS.lt (by decide)) (vp_in_nI (show A.length < 340 by omega) (by decide)) ?_
  rw [nI_clamp (by omega), hat.2.2.2, hj]
  rw [show nI (bN (some (1048576 + 16))) = 17 from rfl]
  refine v_tableOut (tgt := 403) X (dk D_Rf_act 9 rfl) (by decide) (by decide) ?_
  refine v_aload_n X (dk D_Rf_act 171 rfl) rfl ?_
  refine v_aload_n X (dk D_Rf_act 172 rfl) rfl ?_
  refine v_getF X (dk D_Rf_act 173 rfl) F_Rf_43 rfl rfl (hS.lt (by decide)) (hS.2 1003 25) ?_
  refine v_iload_n X (dk D_Rf_act 174 rfl) rfl ?_
  refine v_iald X (dk D_Rf_act 175 rfl) rfl (hS.lt (by decide)) (vp_in_nI (show A.length < 340 by omega) (by decide)) ?_
  rw [nI_clamp (by omega), hat.2.2.2, hj]
  rw [show nI (bN (some (1048576 + 16))) = 17 from rfl]
  refine v_iload X (dk D_Rf_act 176 rfl) rfl ?_
  refine v_iload X (dk D_Rf_act 177 rfl) rfl ?_
  refine v_invV (As := [.int 17, .int (nI (na r)), .int (nI f.2.1.length)]) (st := []) X (r_actQuotes l q hS he hC) (dk D_Rf_act 178 rfl) G_Rf_311 K_Rf_actOnInput V_Rf_actOnInput rfl rfl (hS.lt (by decide)) rfl rfl (Nat.le_of_ble_eq_true rfl) (Nat.le_of_ble_eq_true rfl) (Nat.le_of_ble_eq_true rfl) (Nat.le_of_ble_eq_true rfl) (Nat.le_of_ble_eq_true rfl) ?_
  rintro v w1 ⟨rfl, a1, a2, a3⟩
  show Vv _ _ _ _ _ _ _ _ _ _ _ _ _ _ _ [] (0, 0, w1.2.2)
  exact v_vret X hlk hrt (dk D_Rf_act 179 rfl) ⟨rfl, (a1.mono (by decide) (by decide)), by rw [haX]; exact AP_q hZ hV he hab a1 a2 a3⟩
theorem r_act (l : Launch) (q : ev_T) {fu : Nat} {f : Fr} {r : List Fr} {S : Mst} {M A B : List Me} {e : Me} {g : mu_T} (hZ : RZ g fu S) (he : gI g 1003 2 = 0) (hV : GV g []) (hC : AC g f r) (hM : RM g M) (hbd : bnd M) (hdf : S.2.2.2.1.2.1 ≤ 300) (hdb : S.2.2.2.1.2.2 ≤ 16384) (hSe : S.2.2.2.1 = (mgP M, cD M, cB M)) (hMA : M = A ++ e :: B) : Ctr l q M_Rf_act 66 [.ref 1003, .int (nI A.length), .int (nI (hl r).length), .int (nI f.1.length), .int (nI (na r))] (0, 0, g) (fun v w => v = none ∧ rs g w.2.2 [2, 3, 4, 8, 9, 10, 11, 13, 15, 20, 21, 27, 28, 29, 32, 33, 39, 40, 41, 42, 43, 44] [1007, 1008, 1010, 1011, 1012, 1013, 1014, 1015, 1016, 1017, 1020, 1021] ∧ AP w.2.2 fu (aX S f e.2)) := by
  have hem : e ∈ M := by rw [hMA]; exact List.mem_append_right _ (List.mem_cons_self ..)
  cases he2 : e.2.1 with
  | none => exact r_act_n l q hZ he hV hC hM hbd hdf hdb hSe hMA he2
  | some c =>
    obtain ⟨j, hj17, hcj⟩ := hM.2.2.2.2.2.2.2.2 e hem c he2
    subst hcj
    have hcs : j = 0 ∨ j = 1 ∨ j = 2 ∨ j = 3 ∨ j = 4 ∨ j = 5 ∨ j = 6 ∨ j = 7 ∨ j = 8 ∨ j = 9 ∨ j = 10 ∨ j = 11 ∨ j = 12 ∨ j = 13 ∨ j = 14 ∨ j = 15 ∨ j = 16 := by omega
    rcases hcs with rfl | rfl | rfl | rfl | rfl | rfl | rfl | rfl | rfl | rfl | rfl | rfl | rfl | rfl | rfl | rfl | rfl
    · exact r_act_0 l q hZ he hV hC hM hbd hdf hdb hSe hMA he2
    · exact r_act_1 l q hZ he hV hC hM hbd hdf hdb hSe hMA he2
    · exact r_act_2 l q hZ he hV hC hM hbd hdf hdb hSe hMA he2
    · exact r_act_3 l q hZ he hV hC hM hbd hdf hdb hSe hMA he2
    · exact r_act_4 l q hZ he hV hC hM hbd hdf hdb hSe hMA he2
    · exact r_act_5 l q hZ he hV hC hM hbd hdf hdb hSe hMA he2
    · exact r_act_6 l q hZ he hV hC hM hbd hdf hdb hSe hMA he2
    · exact r_act_7 l q hZ he hV hC hM hbd hdf hdb hSe hMA he2
    · exact r_act_8 l q hZ he hV hC hM hbd hdf hdb hSe hMA he2
    · exact r_act_9 l q hZ he hV hC hM hbd hdf hdb hSe hMA he2
    · exact r_act_10 l q hZ he hV hC hM hbd hdf hdb hSe hMA he2
    · exact r_act_11 l q hZ he hV hC hM hbd hdf hdb hSe hMA he2
    · exact r_act_12 l q hZ he hV hC hM hbd hdf hdb hSe hMA he2
    · exact r_act_13 l q hZ he hV hC hM hbd hdf hdb hSe hMA he2
    · exact r_act_14 l q hZ he hV hC hM hbd hdf hdb hSe hMA he2
    · exact r_act_15 l q hZ he hV hC hM hbd hdf hdb hSe hMA he2
    · exact r_act_16 l q hZ he hV hC hM hbd hdf hdb hSe hMA he2
