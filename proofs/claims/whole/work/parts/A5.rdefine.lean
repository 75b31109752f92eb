/-! the reference: define -/
def bnd (M : List Me) : Prop := M.length ≤ cD M + 17 ∧ (mT M).length ≤ cB M + 128
/-- all meanings and their counts -/
def RP (g : mu_T) (S : Mng × Nat × Nat) : Prop := ∃ M, RM g M ∧ bnd M ∧ S.2.1 ≤ 300 ∧ S.2.2 ≤ 16384 ∧ S = (mgP M, cD M, cB M)
theorem RP.rs {g w : mu_T} {K U : List Nat} {S : Mng × Nat × Nat} (h : RP g S) (z : rs g w K U) (hK : ∀ k ∈ [21, 27, 28, 29], k ∉ K) (hU : ∀ r ∈ [1011, 1012, 1013, 1014, 1015], r ∉ U) : RP w S := by
  obtain ⟨M, a, b⟩ := h
  exact ⟨M, a.rs z hK hU, b⟩
theorem bnd_del {A B : List Me} {e : Me} (h : bnd (A ++ e :: B)) : bnd (A ++ B) := by
  obtain ⟨h1, h2⟩ := h
  rw [cD_app, cD, List.length_append, List.length_cons] at h1
  rw [cB_app, cB, mT_app, show mT (e :: B) = mB e ++ mT B from rfl, List.length_append, List.length_append, uB] at h2
  refine ⟨?_, ?_⟩
  · rw [cD_app, List.length_append]; split at h1 <;> omega
  · rw [cB_app, mT_app, List.length_append]; split at h2 <;> omega
theorem bnd_add {M : List Me} {nm t : List Int32} (h : bnd M) : bnd (M ++ [(nm, none, t)]) := by
  obtain ⟨h1, h2⟩ := h
  refine ⟨?_, ?_⟩
  · rw [cD_app, List.length_append, show cD [((nm, none, t) : Me)] = 1 from rfl, List.length_singleton]; omega
  · rw [cB_app, mT_app, List.length_append, show cB [((nm, none, t) : Me)] = (nm ++ t).length + 0 from rfl, show mT [((nm, none, t) : Me)] = (nm ++ t) ++ [] from rfl, List.append_nil]; omega
def dE (ps : Bool) (nm t : List Int32) (S : Mng × Nat × Nat) : Int32 := if isNm nm = true then (if (dfn ps nm t S.1 S.2.1 S.2.2).isSome = true then 0 else 40) else 35
def dS (ps : Bool) (nm t : List Int32) (S : Mng × Nat × Nat) : Mng × Nat × Nat := if isNm nm = true then (dfn ps nm t S.1 S.2.1 S.2.2).getD S else S
theorem dE_no {ps : Bool} {nm t : List Int32} {S : Mng × Nat × Nat} (h : ¬ isNm nm = true) : dE ps nm t S = 35 ∧ dS ps nm t S = S := ⟨if_neg h, if_neg h⟩
theorem dE_40 {ps : Bool} {nm t : List Int32} {S : Mng × Nat × Nat} (h : isNm nm = true) (hd : dfn ps nm t S.1 S.2.1 S.2.2 = none) : dE ps nm t S = 40 ∧ dS ps nm t S = S := by
  rw [dE, dS, if_pos h, if_pos h, hd]; exact ⟨rfl, rfl⟩
theorem dE_ok {ps : Bool} {nm t : List Int32} {S S2 : Mng × Nat × Nat} (h : isNm nm = true) (hd : dfn ps nm t S.1 S.2.1 S.2.2 = some S2) : dE ps nm t S = 0 ∧ dS ps nm t S = S2 := by
  rw [dE, dS, if_pos h, if_pos h, hd]; exact ⟨rfl, rfl⟩
theorem cD_1 {M : List Me} {nm t : List Int32} : cD (M ++ [(nm, none, t)]) = cD M + 1 := by rw [cD_app]; rfl
theorem cB_1 {M : List Me} {nm t : List Int32} : cB (M ++ [(nm, none, t)]) = cB M + nm.length + t.length := by
  rw [cB_app, show cB [((nm, none, t) : Me)] = (nm ++ t).length + 0 from rfl, List.length_append]; omega
theorem dfn_n {onTop : Bool} {nm t : List Int32} {P : Mng} {df db : Nat} (h : onTop = true ∨ P nm = []) : dfn onTop nm t P df db = if df < 300 ∧ db + nm.length + t.length ≤ 16384 then some (pu P nm ((none, t) :: P nm), df + 1, db + nm.length + t.length) else none := by
  rw [dfn]
  rcases h with h | h
  · rw [if_pos h]
  · cases onTop with
    | true => rw [if_pos rfl]
    | false => rw [if_neg (by decide), h]; rfl
theorem dfn_u {nm t old : List Int32} {P : Mng} {L : List (Option Nat × List Int32)} {df db : Nat} (h : P nm = (none, old) :: L) : dfn false nm t P df db = if db + t.length ≤ 16384 + old.length then some (pu P nm ((none, t) :: L), df, db + t.length - old.length) else none := by
  rw [dfn, if_neg (by decide), h]; rfl
theorem dfn_b {nm t x : List Int32} {c : Nat} {P : Mng} {L : List (Option Nat × List Int32)} {df db : Nat} (h : P nm = (some c, x) :: L) : dfn false nm t P df db = if df < 300 ∧ db + nm.length + t.length ≤ 16384 then some (pu P nm ((none, t) :: L), df + 1, db + nm.length + t.length) else none := by
  rw [dfn, if_neg (by decide), h]; rfl
theorem pu_pu {P : Mng} {nm : List Int32} {L L' : List (Option Nat × List Int32)} : pu (pu P nm L) nm L' = pu P nm L' := by
  funext x
  rw [pu, pu, pu]
  by_cases c : x = nm
  · rw [if_pos c, if_pos c]
  · rw [if_neg c, if_neg c, if_neg c]
theorem pu_eq {P : Mng} {nm : List Int32} {L : List (Option Nat × List Int32)} : pu P nm L nm = L := if_pos rfl
/-- after the old one has gone -/
theorem mgP_swap {A B : List Me} {e : Me} {nm t : List Int32} (he : e.1 = nm) (hB : ∀ x ∈ B, x.1 ≠ nm) : mgP (A ++ B ++ [(nm, none, t)]) = pu (mgP (A ++ e :: B)) nm ((none, t) :: mgP A nm) := by
  rw [mgP_add, mgP_del he hB, pu_pu, pu_eq, mgP_top he hB]; rfl
set_option maxHeartbeats 4000000 in
set_option maxRecDepth 100000 in
theorem r_define (l : Launch) (q : ev_T) {ps : Bool} {f : Fr} {r : List Fr} {S : Mng × Nat × Nat} {g : mu_T} (hS : Shp g) (he : gI g 1003 2 = 0) (hC : AC g f r) (hP : RP g S) : Ctr l q M_Rf_define 3 [.ref 1003, .int (nI (na r)), .int (if ps = true then 1 else 0)] (0, 0, g) (fun v w => v = none ∧ rs g w.2.2 [2, 3, 21, 27, 28, 29] [1011, 1012, 1013, 1014, 1015] ∧ gI w.2.2 1003 2 = (dE ps (f.2.1.getD 0 []) (f.2.1.getD 1 []) S) ∧ (¬ (dE ps (f.2.1.getD 0 []) (f.2.1.getD 1 []) S) = 0 → gI w.2.2 1003 3 = gI g 1003 10) ∧ RP w.2.2 (dS ps (f.2.1.getD 0 []) (f.2.1.getD 1 []) S)) := by
  obtain ⟨M, hM, hbd, hdf, hdb, hSe⟩ := hP
  have hle0 := ag_le (f := f) (r := r) 0
  have hle1 := ag_le (f := f) (r := r) 1
  have h16 := hC.1.1.2.2
  have hdf2 : cD M ≤ 300 := by rw [hSe] at hdf; exact hdf
  have hdb2 : cB M ≤ 16384 := by rw [hSe] at hdb; exact hdb
  refine Ctr.mk (lb := [some (.ref 1003), some (.int (nI (na r))), some (.int (if ps = true then 1 else 0)), none, none, none, none, none]) (by decide +kernel) (Nat.le_of_ble_eq_true rfl) rfl rfl ?_
  intro pp ee ss mm aa bb mt cd X hrt hlk hnm
  have err : isNm (f.2.1.getD 0 []) = true → (dfn ps (f.2.1.getD 0 []) (f.2.1.getD 1 []) S.1 S.2.1 S.2.2) = none → ∀ (tv go ro : Int32), Vv pp l ee (rmT 3 0 0) ss mm aa bb mt cd 8 q (MQ bb (Qw q (fun v w => v = none ∧ rs g w.2.2 [2, 3, 21, 27, 28, 29] [1011, 1012, 1013, 1014, 1015] ∧ gI w.2.2 1003 2 = (dE ps (f.2.1.getD 0 []) (f.2.1.getD 1 []) S) ∧ (¬ (dE ps (f.2.1.getD 0 []) (f.2.1.getD 1 []) S) = 0 → gI w.2.2 1003 3 = gI g 1003 10) ∧ RP w.2.2 (dS ps (f.2.1.getD 0 []) (f.2.1.getD 1 []) S))) aa ss 0 0 (fun a => q.1 ≤ a)) 137 [some (.ref 1003), some (.int (nI (na r))), some (.int (if ps = true then 1 else 0)), some (.int (nI (stA f r 0))), some (.int (nI (f.2.1.getD 0 []).length)), some (.int tv), some (.int go), some (.int ro)] [] (0, 0, g) := by
    intro hnm hd tv go ro
    refine v_aload_n X (dk D_Rf_define 73 rfl) rfl ?_
    refine v_bipush (v := 40) X (dk D_Rf_define 74 rfl) (by decide) ?_
    refine v_invV (As := [.int 40]) (st := []) X (r_fail1 l q (n := 40) hS) (dk D_Rf_define 75 rfl) G_Rf_84 K_Rf_fail1 V_Rf_fail1 rfl rfl (hS.lt (by decide)) rfl rfl (Nat.le_of_ble_eq_true rfl) (Nat.le_of_ble_eq_true rfl) (Nat.le_of_ble_eq_true rfl) (Nat.le_of_ble_eq_true rfl) (Nat.le_of_ble_eq_true rfl) ?_
    rintro v w1 ⟨rfl, hw⟩
    rw [hw, if_pos he]
    show Vv _ _ _ _ _ _ _ _ _ _ _ _ _ _ _ [] (0, 0, (xI (xI g 1003 2 40) 1003 3 (gI g 1003 10)))
    exact v_vret X hlk hrt (dk D_Rf_define 76 rfl) ⟨rfl, ((rs.rf g _ _).fI (by decide)).fI (by decide), (gI_nk (by decide)).trans ((gI_eq _ _ _ _).trans (dE_40 hnm hd).1.symm), fun _ => gI_eq _ _ _ _, by rw [(dE_40 hnm hd).2]; exact RP.rs ⟨M, hM, hbd, hdf, hdb, hSe⟩ (show rs g (xI (xI g 1003 2 40) 1003 3 (gI g 1003 10)) [2, 3] [] from ((rs.rf g _ _).fI (by decide)).fI (by decide)) (by decide) (by decide)⟩
  have add : isNm (f.2.1.getD 0 []) = true → ∀ (u : mu_T) (M1 : List Me) (S2 : Mng × Nat × Nat) (tv go ro : Int32), (dfn ps (f.2.1.getD 0 []) (f.2.1.getD 1 []) S.1 S.2.1 S.2.2) = some S2 → rs g u [2, 3, 21, 27, 28, 29] [1011, 1012, 1013, 1014, 1015] → gI u 1003 2 = 0 → RM u M1 → bnd M1 → M1.length < 317 → (mT M1).length + (f.2.1.getD 0 []).length + (f.2.1.getD 1 []).length ≤ 16512 → S2.2.1 ≤ 300 → S2.2.2 ≤ 16384 → S2 = (mgP (M1 ++ [((f.2.1.getD 0 []), none, (f.2.1.getD 1 []))]), cD (M1 ++ [((f.2.1.getD 0 []), none, (f.2.1.getD 1 []))]), cB (M1 ++ [((f.2.1.getD 0 []), none, (f.2.1.getD 1 []))])) → Vv pp l ee (rmT 3 0 0) ss mm aa bb mt cd 8 q (MQ bb (Qw q (fun v w => v = none ∧ rs g w.2.2 [2, 3, 21, 27, 28, 29] [1011, 1012, 1013, 1014, 1015] ∧ gI w.2.2 1003 2 = (dE ps (f.2.1.getD 0 []) (f.2.1.getD 1 []) S) ∧ (¬ (dE ps (f.2.1.getD 0 []) (f.2.1.getD 1 []) S) = 0 → gI w.2.2 1003 3 = gI g 1003 10) ∧ RP w.2.2 (dS ps (f.2.1.getD 0 []) (f.2.1.getD 1 []) S))) aa ss 0 0 (fun a => q.1 ≤ a)) 155 [some (.ref 1003), some (.int (nI (na r))), some (.int (if ps = true then 1 else 0)), some (.int (nI (stA f r 0))), some (.int (nI (f.2.1.getD 0 []).length)), some (.int tv), some (.int go), some (.int ro)] [] (0, 0, u) := by
    intro hnm u M1 S2 tv go ro hd hs e2 hMu hbu hl1 hl2 hq1 hq2 hSS
    have hSu := hs.S hS
    have hCu := hC.rs hs (by decide) (by decide) (by decide)
    refine v_aload_n X (dk D_Rf_define 82 rfl) rfl ?_
    refine v_iload_n X (dk D_Rf_define 83 rfl) rfl ?_
    refine v_iload X (dk D_Rf_define 84 rfl) rfl ?_
    refine v_aload_n X (dk D_Rf_define 85 rfl) rfl ?_
    refine v_iload_n X (dk D_Rf_define 86 rfl) rfl ?_
    refine v_iconst (v := nI (1 + 1)) X (dk D_Rf_define 87 rfl) (by decide) ?_
    refine v_invV (As := [.int (nI (na r)), .int (nI (1 + 1))]) (st := [.int (nI (f.2.1.getD 0 []).length), .int (nI (stA f r 0)), .ref 1003]) X (r_argumentAt l q (i := 1) hSu hCu (by omega)) (dk D_Rf_define 88 rfl) G_Rf_268 K_Rf_argumentAt V_Rf_argumentAt rfl rfl (hSu.lt (by decide)) rfl rfl (Nat.le_of_ble_eq_true rfl) (Nat.le_of_ble_eq_true rfl) (Nat.le_of_ble_eq_true rfl) (Nat.le_of_ble_eq_true rfl) (Nat.le_of_ble_eq_true rfl) ?_
    rintro v ws ⟨rfl, hws⟩
    rw [hws]
    show Vv _ _ _ _ _ _ _ _ _ _ _ _ _ _ _ [.int (nI (stA f r 1)), .int (nI (f.2.1.getD 0 []).length), .int (nI (stA f r 0)), .ref 1003] (0, 0, u)
    refine v_aload_n X (dk D_Rf_define 89 rfl) rfl ?_
    refine v_iload_n X (dk D_Rf_define 90 rfl) rfl ?_
    refine v_iconst (v := nI (1 + 1)) X (dk D_Rf_define 91 rfl) (by decide) ?_
    refine v_invV (As := [.int (nI (na r)), .int (nI (1 + 1))]) (st := [.int (nI (stA f r 1)), .int (nI (f.2.1.getD 0 []).length), .int (nI (stA f r 0)), .ref 1003]) X (r_argumentSize l q (i := 1) hSu hCu (by omega)) (dk D_Rf_define 92 rfl) G_Rf_272 K_Rf_argumentSize V_Rf_argumentSize rfl rfl (hSu.lt (by decide)) rfl rfl (Nat.le_of_ble_eq_true rfl) (Nat.le_of_ble_eq_true rfl) (Nat.le_of_ble_eq_true rfl) (Nat.le_of_ble_eq_true rfl) (Nat.le_of_ble_eq_true rfl) ?_
    rintro v ws ⟨rfl, hws⟩
    rw [hws]
    show Vv _ _ _ _ _ _ _ _ _ _ _ _ _ _ _ [.int (nI (f.2.1.getD 1 []).length), .int (nI (stA f r 1)), .int (nI (f.2.1.getD 0 []).length), .int (nI (stA f r 0)), .ref 1003] (0, 0, u)
    refine v_invV (As := [.int (nI (stA f r 0)), .int (nI (f.2.1.getD 0 []).length), .int (nI (stA f r 1)), .int (nI (f.2.1.getD 1 []).length)]) (st := []) X (r_addMeaning l q (ys := (f.2.1.getD 0 [])) (zs := (f.2.1.getD 1 [])) hSu hMu hl1 hl2 (hCu.1.1.arg 0) (hCu.1.1.arg 1) (by omega) (by omega)) (dk D_Rf_define 93 rfl) G_Rf_318 K_Rf_addMeaning V_Rf_addMeaning rfl rfl (hSu.lt (by decide)) rfl rfl (Nat.le_of_ble_eq_true rfl) (Nat.le_of_ble_eq_true rfl) (Nat.le_of_ble_eq_true rfl) (Nat.le_of_ble_eq_true rfl) (Nat.le_of_ble_eq_true rfl) ?_
    rintro v w1 ⟨rfl, a1, a2⟩
    show Vv _ _ _ _ _ _ _ _ _ _ _ _ _ _ _ [] (0, 0, w1.2.2)
    exact v_vret X hlk hrt (dk D_Rf_define 94 rfl) ⟨rfl, hs.tr (a1.mono (by simp) (by simp)), ((a1.2 2 (by decide)).trans e2).trans (dE_ok hnm hd).1.symm, fun z => absurd (dE_ok hnm hd).1 z, by rw [(dE_ok hnm hd).2]; exact ⟨_, a2, bnd_add hbu, hq1, hq2, hSS⟩⟩
  have f144 : isNm (f.2.1.getD 0 []) = true → ∀ (A B : List Me) (e : Me) (S2 : Mng × Nat × Nat) (go ro : Int32), M = A ++ e :: B → (dfn ps (f.2.1.getD 0 []) (f.2.1.getD 1 []) S.1 S.2.1 S.2.2) = some S2 → (A ++ B).length < 317 → (mT (A ++ B)).length + (f.2.1.getD 0 []).length + (f.2.1.getD 1 []).length ≤ 16512 → S2.2.1 ≤ 300 → S2.2.2 ≤ 16384 → S2 = (mgP (A ++ B ++ [((f.2.1.getD 0 []), none, (f.2.1.getD 1 []))]), cD (A ++ B ++ [((f.2.1.getD 0 []), none, (f.2.1.getD 1 []))]), cB (A ++ B ++ [((f.2.1.getD 0 []), none, (f.2.1.getD 1 []))])) → Vv pp l ee (rmT 3 0 0) ss mm aa bb mt cd 8 q (MQ bb (Qw q (fun v w => v = none ∧ rs g w.2.2 [2, 3, 21, 27, 28, 29] [1011, 1012, 1013, 1014, 1015] ∧ gI w.2.2 1003 2 = (dE ps (f.2.1.getD 0 []) (f.2.1.getD 1 []) S) ∧ (¬ (dE ps (f.2.1.getD 0 []) (f.2.1.getD 1 []) S) = 0 → gI w.2.2 1003 3 = gI g 1003 10) ∧ RP w.2.2 (dS ps (f.2.1.getD 0 []) (f.2.1.getD 1 []) S))) aa ss 0 0 (fun a => q.1 ≤ a)) 144 [some (.ref 1003), some (.int (nI (na r))), some (.int (if ps = true then 1 else 0)), some (.int (nI (stA f r 0))), some (.int (nI (f.2.1.getD 0 []).length)), some (.int (nI A.length)), some (.int go), some (.int ro)] [] (0, 0, g) := by
    intro hnm A B e S2 go ro hMA hd hl1 hl2 hq1 hq2 hSS
    have hAl : A.length < 317 := by have := hM.2.2.2.2.2.2.1; rw [hMA, List.length_append, List.length_cons] at this; omega
    refine v_iload X (dk D_Rf_define 77 rfl) rfl ?_
    refine v_if_lt (tgt := 155) X (dk D_Rf_define 78 rfl) (by decide) (fun c146 => absurd c146 (nI_pos (by omega))) (fun _ => ?_)
    refine v_aload_n X (dk D_Rf_define 79 rfl) rfl ?_
    refine v_iload X (dk D_Rf_define 80 rfl) rfl ?_
    refine v_invV (As := [.int (nI A.length)]) (st := []) X (r_forget l q hS (show RM g (A ++ e :: B) from hMA ▸ hM)) (dk D_Rf_define 81 rfl) G_Rf_290 K_Rf_forget V_Rf_forget rfl rfl (hS.lt (by decide)) rfl rfl (Nat.le_of_ble_eq_true rfl) (Nat.le_of_ble_eq_true rfl) (Nat.le_of_ble_eq_true rfl) (Nat.le_of_ble_eq_true rfl) (Nat.le_of_ble_eq_true rfl) ?_
    rintro v w1 ⟨rfl, a1, a2⟩
    show Vv _ _ _ _ _ _ _ _ _ _ _ _ _ _ _ [] (0, 0, w1.2.2)
    exact add hnm w1.2.2 (A ++ B) S2 _ go ro hd (a1.mono (by simp) (by simp)) ((a1.2 2 (by decide)).trans he) a2 (bnd_del (hMA ▸ hbd)) hl1 hl2 hq1 hq2 hSS
  by_cases hnm : ¬ isNm (f.2.1.getD 0 []) = true
  · refine v_aload_n X (dk D_Rf_define 0 rfl) rfl ?_
    refine v_iload_n X (dk D_Rf_define 1 rfl) rfl ?_
    refine v_invV (As := [.int (nI (na r))]) (st := []) X (r_isNameArgument l q hS hC) (dk D_Rf_define 2 rfl) G_Rf_315 K_Rf_isNameArgument V_Rf_isNameArgument rfl rfl (hS.lt (by decide)) rfl rfl (Nat.le_of_ble_eq_true rfl) (Nat.le_of_ble_eq_true rfl) (Nat.le_of_ble_eq_true rfl) (Nat.le_of_ble_eq_true rfl) (Nat.le_of_ble_eq_true rfl) ?_
    rintro v w1 ⟨rfl, hw⟩
    rw [hw, if_neg hnm]
    show Vv _ _ _ _ _ _ _ _ _ _ _ _ _ _ _ [.int 0] (0, 0, g)
    refine v_if_ne (tgt := 15) X (dk D_Rf_define 3 rfl) (by decide) (fun c5 => absurd rfl c5) (fun _ => ?_)
    refine v_aload_n X (dk D_Rf_define 4 rfl) rfl ?_
    refine v_bipush (v := 35) X (dk D_Rf_define 5 rfl) (by decide) ?_
    refine v_invV (As := [.int 35]) (st := []) X (r_fail1 l q (n := 35) hS) (dk D_Rf_define 6 rfl) G_Rf_84 K_Rf_fail1 V_Rf_fail1 rfl rfl (hS.lt (by decide)) rfl rfl (Nat.le_of_ble_eq_true rfl) (Nat.le_of_ble_eq_true rfl) (Nat.le_of_ble_eq_true rfl) (Nat.le_of_ble_eq_true rfl) (Nat.le_of_ble_eq_true rfl) ?_
    rintro v w1 ⟨rfl, hw⟩
    rw [hw, if_pos he]
    show Vv _ _ _ _ _ _ _ _ _ _ _ _ _ _ _ [] (0, 0, (xI (xI g 1003 2 35) 1003 3 (gI g 1003 10)))
    exact v_vret X hlk hrt (dk D_Rf_define 7 rfl) ⟨rfl, ((rs.rf g _ _).fI (by decide)).fI (by decide), (gI_nk (by decide)).trans ((gI_eq _ _ _ _).trans (dE_no hnm).1.symm), fun _ => gI_eq _ _ _ _, by rw [(dE_no hnm).2]; exact RP.rs ⟨M, hM, hbd, hdf, hdb, hSe⟩ (show rs g (xI (xI g 1003 2 35) 1003 3 (gI g 1003 10)) [2, 3] [] from ((rs.rf g _ _).fI (by decide)).fI (by decide)) (by decide) (by decide)⟩
  replace hnm := Decidable.not_not.mp hnm
  have hSD : (dfn ps (f.2.1.getD 0 []) (f.2.1.getD 1 []) S.1 S.2.1 S.2.2) = dfn ps (f.2.1.getD 0 []) (f.2.1.getD 1 []) (mgP M) (cD M) (cB M) := by rw [hSe]
  by_cases hps : ps = true
  · have hD0 := hSD.trans (dfn_n (Or.inl hps))
    by_cases c1 : cD M < 300
    · by_cases c2 : cB M + (f.2.1.getD 0 []).length + (f.2.1.getD 1 []).length ≤ 16384
      · have hds := hD0.trans (if_pos ⟨c1, c2⟩)
        refine v_aload_n X (dk D_Rf_define 0 rfl) rfl ?_
        refine v_iload_n X (dk D_Rf_define 1 rfl) rfl ?_
        refine v_invV (As := [.int (nI (na r))]) (st := []) X (r_isNameArgument l q hS hC) (dk D_Rf_define 2 rfl) G_Rf_315 K_Rf_isNameArgument V_Rf_isNameArgument rfl rfl (hS.lt (by decide)) rfl rfl (Nat.le_of_ble_eq_true rfl) (Nat.le_of_ble_eq_true rfl) (Nat.le_of_ble_eq_true rfl) (Nat.le_of_ble_eq_true rfl) (Nat.le_of_ble_eq_true rfl) ?_
        rintro v w1 ⟨rfl, hw⟩
        rw [hw, if_pos hnm]
        show Vv _ _ _ _ _ _ _ _ _ _ _ _ _ _ _ [.int 1] (0, 0, g)
        refine v_if_ne (tgt := 15) X (dk D_Rf_define 3 rfl) (by decide) (fun _ => ?_) (fun c5 => absurd c5 (by decide))
        refine v_aload_n X (dk D_Rf_define 8 rfl) rfl ?_
        refine v_iload_n X (dk D_Rf_define 9 rfl) rfl ?_
        refine v_iconst (v := nI (0 + 1)) X (dk D_Rf_define 10 rfl) (by decide) ?_
        refine v_invV (As := [.int (nI (na r)), .int (nI (0 + 1))]) (st := []) X (r_argumentAt l q (i := 0) hS hC (by omega)) (dk D_Rf_define 11 rfl) G_Rf_268 K_Rf_argumentAt V_Rf_argumentAt rfl rfl (hS.lt (by decide)) rfl rfl (Nat.le_of_ble_eq_true rfl) (Nat.le_of_ble_eq_true rfl) (Nat.le_of_ble_eq_true rfl) (Nat.le_of_ble_eq_true rfl) (Nat.le_of_ble_eq_true rfl) ?_
        rintro v ws ⟨rfl, hws⟩
        rw [hws]
        show Vv _ _ _ _ _ _ _ _ _ _ _ _ _ _ _ [.int (nI (stA f r 0))] (0, 0, g)
        refine v_istore_n (lb := [some (.ref 1003), some (.int (nI (na r))), some (.int (if ps = true then 1 else 0)), some (.int (nI (stA f r 0))), none, none, none, none]) X (dk D_Rf_define 12 rfl) (by decide) rfl ?_
        refine v_aload_n X (dk D_Rf_define 13 rfl) rfl ?_
        refine v_iload_n X (dk D_Rf_define 14 rfl) rfl ?_
        refine v_iconst (v := nI (0 + 1)) X (dk D_Rf_define 15 rfl) (by decide) ?_
        refine v_invV (As := [.int (nI (na r)), .int (nI (0 + 1))]) (st := []) X (r_argumentSize l q (i := 0) hS hC (by omega)) (dk D_Rf_define 16 rfl) G_Rf_272 K_Rf_argumentSize V_Rf_argumentSize rfl rfl (hS.lt (by decide)) rfl rfl (Nat.le_of_ble_eq_true rfl) (Nat.le_of_ble_eq_true rfl) (Nat.le_of_ble_eq_true rfl) (Nat.le_of_ble_eq_true rfl) (Nat.le_of_ble_eq_true rfl) ?_
        rintro v ws ⟨rfl, hws⟩
        rw [hws]
        show Vv _ _ _ _ _ _ _ _ _ _ _ _ _ _ _ [.int (nI (f.2.1.getD 0 []).length)] (0, 0, g)
        refine v_istore (lb := [some (.ref 1003), some (.int (nI (na r))), some (.int (if ps = true then 1 else 0)), some (.int (nI (stA f r 0))), some (.int (nI (f.2.1.getD 0 []).length)), none, none, none]) X (dk D_Rf_define 17 rfl) (by decide) rfl ?_
        refine v_iload_n X (dk D_Rf_define 18 rfl) rfl ?_
        refine v_if_eq (tgt := 38) X (dk D_Rf_define 19 rfl) (by decide) (fun c31 => absurd c31 (by rw [hps]; decide)) (fun _ => ?_)
        refine v_iconst (v := -1) X (dk D_Rf_define 20 rfl) (by decide) ?_
        refine v_goto (tgt := 49) X (dk D_Rf_define 21 rfl) (by decide) ?_
        refine v_istore (lb := [some (.ref 1003), some (.int (nI (na r))), some (.int (if ps = true then 1 else 0)), some (.int (nI (stA f r 0))), some (.int (nI (f.2.1.getD 0 []).length)), some (.int (-1)), none, none]) X (dk D_Rf_define 28 rfl) (by decide) rfl ?_
        refine v_iload X (dk D_Rf_define 29 rfl) rfl ?_
        refine v_if_lt (tgt := 70) X (dk D_Rf_define 30 rfl) (by decide) (fun _ => ?_) (fun c53 => absurd (by decide) c53)
        refine v_iconst (v := 0) X (dk D_Rf_define 38 rfl) (by decide) ?_
        refine v_istore (lb := [some (.ref 1003), some (.int (nI (na r))), some (.int (if ps = true then 1 else 0)), some (.int (nI (stA f r 0))), some (.int (nI (f.2.1.getD 0 []).length)), some (.int (-1)), some (.int 0), none]) X (dk D_Rf_define 39 rfl) (by decide) rfl ?_
        refine v_sipush (v := 16384) X (dk D_Rf_define 40 rfl) (by decide) ?_
        refine v_aload_n X (dk D_Rf_define 41 rfl) rfl ?_
        refine v_getI X (dk D_Rf_define 42 rfl) F_Rf_197 rfl rfl (hS.lt (by decide)) ?_
        rw [hM.2.2.2.1]
        refine v_isub X (dk D_Rf_define 43 rfl) ?_
        rw [show (16384 : Int32) - nI (cB M) = nI (16384 - cB M) from pk_sub (a := 16384) (by omega)]
        refine v_iload X (dk D_Rf_define 44 rfl) rfl ?_
        refine v_if_eq (tgt := 104) X (dk D_Rf_define 45 rfl) (by decide) (fun _ => ?_) (fun c83 => absurd rfl c83)
        refine v_iconst (v := nI 0) X (dk D_Rf_define 56 rfl) (by decide) ?_
        refine v_iadd X (dk D_Rf_define 57 rfl) ?_
        rw [nI_add]
        rw [Nat.add_zero]
        refine v_istore (lb := [some (.ref 1003), some (.int (nI (na r))), some (.int (if ps = true then 1 else 0)), some (.int (nI (stA f r 0))), some (.int (nI (f.2.1.getD 0 []).length)), some (.int (-1)), some (.int 0), some (.int (nI (16384 - cB M)))]) X (dk D_Rf_define 58 rfl) (by decide) rfl ?_
        refine v_iload X (dk D_Rf_define 59 rfl) rfl ?_
        refine v_if_ne (tgt := 123) X (dk D_Rf_define 60 rfl) (by decide) (fun c110 => absurd rfl c110) (fun _ => ?_)
        refine v_aload_n X (dk D_Rf_define 61 rfl) rfl ?_
        refine v_getI X (dk D_Rf_define 62 rfl) F_Rf_194 rfl rfl (hS.lt (by decide)) ?_
        refine v_sipush (v := 300) X (dk D_Rf_define 63 rfl) (by decide) ?_
        refine v_icmp_eq (tgt := 137) X (dk D_Rf_define 64 rfl) (by decide) (fun c120 => absurd c120 (by rw [hM.2.2.1, show (300 : Int32) = nI 300 from rfl, nI_eq (by omega) (by decide)]; omega)) (fun _ => ?_)
        refine v_iload X (dk D_Rf_define 65 rfl) rfl ?_
        refine v_aload_n X (dk D_Rf_define 66 rfl) rfl ?_
        refine v_iload_n X (dk D_Rf_define 67 rfl) rfl ?_
        refine v_iconst (v := nI (1 + 1)) X (dk D_Rf_define 68 rfl) (by decide) ?_
        refine v_invV (As := [.int (nI (na r)), .int (nI (1 + 1))]) (st := [.int (nI (f.2.1.getD 0 []).length)]) X (r_argumentSize l q (i := 1) hS hC (by omega)) (dk D_Rf_define 69 rfl) G_Rf_272 K_Rf_argumentSize V_Rf_argumentSize rfl rfl (hS.lt (by decide)) rfl rfl (Nat.le_of_ble_eq_true rfl) (Nat.le_of_ble_eq_true rfl) (Nat.le_of_ble_eq_true rfl) (Nat.le_of_ble_eq_true rfl) (Nat.le_of_ble_eq_true rfl) ?_
        rintro v ws ⟨rfl, hws⟩
        rw [hws]
        show Vv _ _ _ _ _ _ _ _ _ _ _ _ _ _ _ [.int (nI (f.2.1.getD 1 []).length), .int (nI (f.2.1.getD 0 []).length)] (0, 0, g)
        refine v_iadd X (dk D_Rf_define 70 rfl) ?_
        refine v_iload X (dk D_Rf_define 71 rfl) rfl ?_
        refine v_icmp_le (tgt := 144) X (dk D_Rf_define 72 rfl) (by decide) (fun _ => ?_) (fun c134 => absurd (by rw [nI_add]; exact nI_le (by omega) (by omega)) c134)
        refine v_iload X (dk D_Rf_define 77 rfl) rfl ?_
        refine v_if_lt (tgt := 155) X (dk D_Rf_define 78 rfl) (by decide) (fun _ => ?_) (fun c146 => absurd (by decide) c146)
        exact add hnm g M _ _ _ _ hds (rs.rf g _ _) he hM hbd (by have := hbd.1; omega) (by have := hbd.2; omega) (by show cD M + 1 ≤ 300; omega) (by show cB M + _ + _ ≤ 16384; omega) (by rw [mgP_add, cD_1, cB_1])
      · have hdn := hD0.trans (if_neg (fun z => c2 z.2))
        refine v_aload_n X (dk D_Rf_define 0 rfl) rfl ?_
        refine v_iload_n X (dk D_Rf_define 1 rfl) rfl ?_
        refine v_invV (As := [.int (nI (na r))]) (st := []) X (r_isNameArgument l q hS hC) (dk D_Rf_define 2 rfl) G_Rf_315 K_Rf_isNameArgument V_Rf_isNameArgument rfl rfl (hS.lt (by decide)) rfl rfl (Nat.le_of_ble_eq_true rfl) (Nat.le_of_ble_eq_true rfl) (Nat.le_of_ble_eq_true rfl) (Nat.le_of_ble_eq_true rfl) (Nat.le_of_ble_eq_true rfl) ?_
        rintro v w1 ⟨rfl, hw⟩
        rw [hw, if_pos hnm]
        show Vv _ _ _ _ _ _ _ _ _ _ _ _ _ _ _ [.int 1] (0, 0, g)
        refine v_if_ne (tgt := 15) X (dk D_Rf_define 3 rfl) (by decide) (fun _ => ?_) (fun c5 => absurd c5 (by decide))
        refine v_aload_n X (dk D_Rf_define 8 rfl) rfl ?_
        refine v_iload_n X (dk D_Rf_define 9 rfl) rfl ?_
        refine v_iconst (v := nI (0 + 1)) X (dk D_Rf_define 10 rfl) (by decide) ?_
        refine v_invV (As := [.int (nI (na r)), .int (nI (0 + 1))]) (st := []) X (r_argumentAt l q (i := 0) hS hC (by omega)) (dk D_Rf_define 11 rfl) G_Rf_268 K_Rf_argumentAt V_Rf_argumentAt rfl rfl (hS.lt (by decide)) rfl rfl (Nat.le_of_ble_eq_true rfl) (Nat.le_of_ble_eq_true rfl) (Nat.le_of_ble_eq_true rfl) (Nat.le_of_ble_eq_true rfl) (Nat.le_of_ble_eq_true rfl) ?_
        rintro v ws ⟨rfl, hws⟩
        rw [hws]
        show Vv _ _ _ _ _ _ _ _ _ _ _ _ _ _ _ [.int (nI (stA f r 0))] (0, 0, g)
        refine v_istore_n (lb := [some (.ref 1003), some (.int (nI (na r))), some (.int (if ps = true then 1 else 0)), some (.int (nI (stA f r 0))), none, none, none, none]) X (dk D_Rf_define 12 rfl) (by decide) rfl ?_
        refine v_aload_n X (dk D_Rf_define 13 rfl) rfl ?_
        refine v_iload_n X (dk D_Rf_define 14 rfl) rfl ?_
        refine v_iconst (v := nI (0 + 1)) X (dk D_Rf_define 15 rfl) (by decide) ?_
        refine v_invV (As := [.int (nI (na r)), .int (nI (0 + 1))]) (st := []) X (r_argumentSize l q (i := 0) hS hC (by omega)) (dk D_Rf_define 16 rfl) G_Rf_272 K_Rf_argumentSize V_Rf_argumentSize rfl rfl (hS.lt (by decide)) rfl rfl (Nat.le_of_ble_eq_true rfl) (Nat.le_of_ble_eq_true rfl) (Nat.le_of_ble_eq_true rfl) (Nat.le_of_ble_eq_true rfl) (Nat.le_of_ble_eq_true rfl) ?_
        rintro v ws ⟨rfl, hws⟩
        rw [hws]
        show Vv _ _ _ _ _ _ _ _ _ _ _ _ _ _ _ [.int (nI (f.2.1.getD 0 []).length)] (0, 0, g)
        refine v_istore (lb := [some (.ref 1003), some (.int (nI (na r))), some (.int (if ps = true then 1 else 0)), some (.int (nI (stA f r 0))), some (.int (nI (f.2.1.getD 0 []).length)), none, none, none]) X (dk D_Rf_define 17 rfl) (by decide) rfl ?_
        refine v_iload_n X (dk D_Rf_define 18 rfl) rfl ?_
        refine v_if_eq (tgt := 38) X (dk D_Rf_define 19 rfl) (by decide) (fun c31 => absurd c31 (by rw [hps]; decide)) (fun _ => ?_)
        refine v_iconst (v := -1) X (dk D_Rf_define 20 rfl) (by decide) ?_
        refine v_goto (tgt := 49) X (dk D_Rf_define 21 rfl) (by decide) ?_
        refine v_istore (lb := [some (.ref 1003), some (.int (nI (na r))), some (.int (if ps = true then 1 else 0)), some (.int (nI (stA f r 0))), some (.int (nI (f.2.1.getD 0 []).length)), some (.int (-1)), none, none]) X (dk D_Rf_define 28 rfl) (by decide) rfl ?_
        refine v_iload X (dk D_Rf_define 29 rfl) rfl ?_
        refine v_if_lt (tgt := 70) X (dk D_Rf_define 30 rfl) (by decide) (fun _ => ?_) (fun c53 => absurd (by decide) c53)
        refine v_iconst (v := 0) X (dk D_Rf_define 38 rfl) (by decide) ?_
        refine v_istore (lb := [some (.ref 1003), some (.int (nI (na r))), some (.int (if ps = true then 1 else 0)), some (.int (nI (stA f r 0))), some (.int (nI (f.2.1.getD 0 []).length)), some (.int (-1)), some (.int 0), none]) X (dk D_Rf_define 39 rfl) (by decide) rfl ?_
        refine v_sipush (v := 16384) X (dk D_Rf_define 40 rfl) (by decide) ?_
        refine v_aload_n X (dk D_Rf_define 41 rfl) rfl ?_
        refine v_getI X (dk D_Rf_define 42 rfl) F_Rf_197 rfl rfl (hS.lt (by decide)) ?_
        rw [hM.2.2.2.1]
        refine v_isub X (dk D_Rf_define 43 rfl) ?_
        rw [show (16384 : Int32) - nI (cB M) = nI (16384 - cB M) from pk_sub (a := 16384) (by omega)]
        refine v_iload X (dk D_Rf_define 44 rfl) rfl ?_
        refine v_if_eq (tgt := 104) X (dk D_Rf_define 45 rfl) (by decide) (fun _ => ?_) (fun c83 => absurd rfl c83)
        refine v_iconst (v := nI 0) X (dk D_Rf_define 56 rfl) (by decide) ?_
        refine v_iadd X (dk D_Rf_define 57 rfl) ?_
        rw [nI_add]
        rw [Nat.add_zero]
        refine v_istore (lb := [some (.ref 1003), some (.int (nI (na r))), some (.int (if ps = true then 1 else 0)), some (.int (nI (stA f r 0))), some (.int (nI (f.2.1.getD 0 []).length)), some (.int (-1)), some (.int 0), some (.int (nI (16384 - cB M)))]) X (dk D_Rf_define 58 rfl) (by decide) rfl ?_
        refine v_iload X (dk D_Rf_define 59 rfl) rfl ?_
        refine v_if_ne (tgt := 123) X (dk D_Rf_define 60 rfl) (by decide) (fun c110 => absurd rfl c110) (fun _ => ?_)
        refine v_aload_n X (dk D_Rf_define 61 rfl) rfl ?_
        refine v_getI X (dk D_Rf_define 62 rfl) F_Rf_194 rfl rfl (hS.lt (by decide)) ?_
        refine v_sipush (v := 300) X (dk D_Rf_define 63 rfl) (by decide) ?_
        refine v_icmp_eq (tgt := 137) X (dk D_Rf_define 64 rfl) (by decide) (fun c120 => absurd c120 (by rw [hM.2.2.1, show (300 : Int32) = nI 300 from rfl, nI_eq (by omega) (by decide)]; omega)) (fun _ => ?_)
        refine v_iload X (dk D_Rf_define 65 rfl) rfl ?_
        refine v_aload_n X (dk D_Rf_define 66 rfl) rfl ?_
        refine v_iload_n X (dk D_Rf_define 67 rfl) rfl ?_
        refine v_iconst (v := nI (1 + 1)) X (dk D_Rf_define 68 rfl) (by decide) ?_
        refine v_invV (As := [.int (nI (na r)), .int (nI (1 + 1))]) (st := [.int (nI (f.2.1.getD 0 []).length)]) X (r_argumentSize l q (i := 1) hS hC (by omega)) (dk D_Rf_define 69 rfl) G_Rf_272 K_Rf_argumentSize V_Rf_argumentSize rfl rfl (hS.lt (by decide)) rfl rfl (Nat.le_of_ble_eq_true rfl) (Nat.le_of_ble_eq_true rfl) (Nat.le_of_ble_eq_true rfl) (Nat.le_of_ble_eq_true rfl) (Nat.le_of_ble_eq_true rfl) ?_
        rintro v ws ⟨rfl, hws⟩
        rw [hws]
        show Vv _ _ _ _ _ _ _ _ _ _ _ _ _ _ _ [.int (nI (f.2.1.getD 1 []).length), .int (nI (f.2.1.getD 0 []).length)] (0, 0, g)
        refine v_iadd X (dk D_Rf_define 70 rfl) ?_
        refine v_iload X (dk D_Rf_define 71 rfl) rfl ?_
        refine v_icmp_le (tgt := 144) X (dk D_Rf_define 72 rfl) (by decide) (fun c134 => absurd c134 (by rw [nI_add]; exact fun z => absurd ((nI_leI (by omega) (by omega)).mp z) (by omega))) (fun _ => ?_)
        exact err hnm hdn _ _ _
    · have hdn := hD0.trans (if_neg (fun z => c1 z.1))
      refine v_aload_n X (dk D_Rf_define 0 rfl) rfl ?_
      refine v_iload_n X (dk D_Rf_define 1 rfl) rfl ?_
      refine v_invV (As := [.int (nI (na r))]) (st := []) X (r_isNameArgument l q hS hC) (dk D_Rf_define 2 rfl) G_Rf_315 K_Rf_isNameArgument V_Rf_isNameArgument rfl rfl (hS.lt (by decide)) rfl rfl (Nat.le_of_ble_eq_true rfl) (Nat.le_of_ble_eq_true rfl) (Nat.le_of_ble_eq_true rfl) (Nat.le_of_ble_eq_true rfl) (Nat.le_of_ble_eq_true rfl) ?_
      rintro v w1 ⟨rfl, hw⟩
      rw [hw, if_pos hnm]
      show Vv _ _ _ _ _ _ _ _ _ _ _ _ _ _ _ [.int 1] (0, 0, g)
      refine v_if_ne (tgt := 15) X (dk D_Rf_define 3 rfl) (by decide) (fun _ => ?_) (fun c5 => absurd c5 (by decide))
      refine v_aload_n X (dk D_Rf_define 8 rfl) rfl ?_
      refine v_iload_n X (dk D_Rf_define 9 rfl) rfl ?_
      refine v_iconst (v := nI (0 + 1)) X (dk D_Rf_define 10 rfl) (by decide) ?_
      refine v_invV (As := [.int (nI (na r)), .int (nI (0 + 1))]) (st := []) X (r_argumentAt l q (i := 0) hS hC (by omega)) (dk D_Rf_define 11 rfl) G_Rf_268 K_Rf_argumentAt V_Rf_argumentAt rfl rfl (hS.lt (by decide)) rfl rfl (Nat.le_of_ble_eq_true rfl) (Nat.le_of_ble_eq_true rfl) (Nat.le_of_ble_eq_true rfl) (Nat.le_of_ble_eq_true rfl) (Nat.le_of_ble_eq_true rfl) ?_
      rintro v ws ⟨rfl, hws⟩
      rw [hws]
      show Vv _ _ _ _ _ _ _ _ _ _ _ _ _ _ _ [.int (nI (stA f r 0))] (0, 0, g)
      refine v_istore_n (lb := [some (.ref 1003), some (.int (nI (na r))), some (.int (if ps = true then 1 else 0)), some (.int (nI (stA f r 0))), none, none, none, none]) X (dk D_Rf_define 12 rfl) (by decide) rfl ?_
      refine v_aload_n X (dk D_Rf_define 13 rfl) rfl ?_
      refine v_iload_n X (dk D_Rf_define 14 rfl) rfl ?_
      refine v_iconst (v := nI (0 + 1)) X (dk D_Rf_define 15 rfl) (by decide) ?_
      refine v_invV (As := [.int (nI (na r)), .int (nI (0 + 1))]) (st := []) X (r_argumentSize l q (i := 0) hS hC (by omega)) (dk D_Rf_define 16 rfl) G_Rf_272 K_Rf_argumentSize V_Rf_argumentSize rfl rfl (hS.lt (by decide)) rfl rfl (Nat.le_of_ble_eq_true rfl) (Nat.le_of_ble_eq_true rfl) (Nat.le_of_ble_eq_true rfl) (Nat.le_of_ble_eq_true rfl) (Nat.le_of_ble_eq_true rfl) ?_
      rintro v ws ⟨rfl, hws⟩
      rw [hws]
      show Vv _ _ _ _ _ _ _ _ _ _ _ _ _ _ _ [.int (nI (f.2.1.getD 0 []).length)] (0, 0, g)
      refine v_istore (lb := [some (.ref 1003), some (.int (nI (na r))), some (.int (if ps = true then 1 else 0)), some (.int (nI (stA f r 0))), some (.int (nI (f.2.1.getD 0 []).length)), none, none, none]) X (dk D_Rf_define 17 rfl) (by decide) rfl ?_
      refine v_iload_n X (dk D_Rf_define 18 rfl) rfl ?_
      refine v_if_eq (tgt := 38) X (dk D_Rf_define 19 rfl) (by decide) (fun c31 => absurd c31 (by rw [hps]; decide)) (fun _ => ?_)
      refine v_iconst (v := -1) X (dk D_Rf_define 20 rfl) (by decide) ?_
      refine v_goto (tgt := 49) X (dk D_Rf_define 21 rfl) (by decide) ?_
      refine v_istore (lb := [some (.ref 1003), some (.int (nI (na r))), some (.int (if ps = true then 1 else 0)), some (.int (nI (stA f r 0))), some (.int (nI (f.2.1.getD 0 []).length)), some (.int (-1)), none, none]) X (dk D_Rf_define 28 rfl) (by decide) rfl ?_
      refine v_iload X (dk D_Rf_define 29 rfl) rfl ?_
      refine v_if_lt (tgt := 70) X (dk D_Rf_define 30 rfl) (by decide) (fun _ => ?_) (fun c53 => absurd (by decide) c53)
      refine v_iconst (v := 0) X (dk D_Rf_define 38 rfl) (by decide) ?_
      refine v_istore (lb := [some (.ref 1003), some (.int (nI (na r))), some (.int (if ps = true then 1 else 0)), some (.int (nI (stA f r 0))), some (.int (nI (f.2.1.getD 0 []).length)), some (.int (-1)), some (.int 0), none]) X (dk D_Rf_define 39 rfl) (by decide) rfl ?_
      refine v_sipush (v := 16384) X (dk D_Rf_define 40 rfl) (by decide) ?_
      refine v_aload_n X (dk D_Rf_define 41 rfl) rfl ?_
      refine v_getI X (dk D_Rf_define 42 rfl) F_Rf_197 rfl rfl (hS.lt (by decide)) ?_
      rw [hM.2.2.2.1]
      refine v_isub X (dk D_Rf_define 43 rfl) ?_
      rw [show (16384 : Int32) - nI (cB M) = nI (16384 - cB M) from pk_sub (a := 16384) (by omega)]
      refine v_iload X (dk D_Rf_define 44 rfl) rfl ?_
      refine v_if_eq (tgt := 104) X (dk D_Rf_define 45 rfl) (by decide) (fun _ => ?_) (fun c83 => absurd rfl c83)
      refine v_iconst (v := nI 0) X (dk D_Rf_define 56 rfl) (by decide) ?_
      refine v_iadd X (dk D_Rf_define 57 rfl) ?_
      rw [nI_add]
      rw [Nat.add_zero]
      refine v_istore (lb := [some (.ref 1003), some (.int (nI (na r))), some (.int (if ps = true then 1 else 0)), some (.int (nI (stA f r 0))), some (.int (nI (f.2.1.getD 0 []).length)), some (.int (-1)), some (.int 0), some (.int (nI (16384 - cB M)))]) X (dk D_Rf_define 58 rfl) (by decide) rfl ?_
      refine v_iload X (dk D_Rf_define 59 rfl) rfl ?_
      refine v_if_ne (tgt := 123) X (dk D_Rf_define 60 rfl) (by decide) (fun c110 => absurd rfl c110) (fun _ => ?_)
      refine v_aload_n X (dk D_Rf_define 61 rfl) rfl ?_
      refine v_getI X (dk D_Rf_define 62 rfl) F_Rf_194 rfl rfl (hS.lt (by decide)) ?_
      refine v_sipush (v := 300) X (dk D_Rf_define 63 rfl) (by decide) ?_
      refine v_icmp_eq (tgt := 137) X (dk D_Rf_define 64 rfl) (by decide) (fun _ => ?_) (fun c120 => absurd (by rw [hM.2.2.1, show cD M = 300 by omega]; rfl) c120)
      exact err hnm hdn _ _ _
  · replace hps : ps = false := by cases ps; rfl; exact absurd rfl hps
    rcases tp_or M (f.2.1.getD 0 []) with ⟨hno, htp⟩ | ⟨A, e, B, hMA, heq, hB, htp⟩
    · have hD0 := hSD.trans (dfn_n (Or.inr (mgP_no hno)))
      by_cases c1 : cD M < 300
      · by_cases c2 : cB M + (f.2.1.getD 0 []).length + (f.2.1.getD 1 []).length ≤ 16384
        · have hds := hD0.trans (if_pos ⟨c1, c2⟩)
          refine v_aload_n X (dk D_Rf_define 0 rfl) rfl ?_
          refine v_iload_n X (dk D_Rf_define 1 rfl) rfl ?_
          refine v_invV (As := [.int (nI (na r))]) (st := []) X (r_isNameArgument l q hS hC) (dk D_Rf_define 2 rfl) G_Rf_315 K_Rf_isNameArgument V_Rf_isNameArgument rfl rfl (hS.lt (by decide)) rfl rfl (Nat.le_of_ble_eq_true rfl) (Nat.le_of_ble_eq_true rfl) (Nat.le_of_ble_eq_true rfl) (Nat.le_of_ble_eq_true rfl) (Nat.le_of_ble_eq_true rfl) ?_
          rintro v w1 ⟨rfl, hw⟩
          rw [hw, if_pos hnm]
          show Vv _ _ _ _ _ _ _ _ _ _ _ _ _ _ _ [.int 1] (0, 0, g)
          refine v_if_ne (tgt := 15) X (dk D_Rf_define 3 rfl) (by decide) (fun _ => ?_) (fun c5 => absurd c5 (by decide))
          refine v_aload_n X (dk D_Rf_define 8 rfl) rfl ?_
          refine v_iload_n X (dk D_Rf_define 9 rfl) rfl ?_
          refine v_iconst (v := nI (0 + 1)) X (dk D_Rf_define 10 rfl) (by decide) ?_
          refine v_invV (As := [.int (nI (na r)), .int (nI (0 + 1))]) (st := []) X (r_argumentAt l q (i := 0) hS hC (by omega)) (dk D_Rf_define 11 rfl) G_Rf_268 K_Rf_argumentAt V_Rf_argumentAt rfl rfl (hS.lt (by decide)) rfl rfl (Nat.le_of_ble_eq_true rfl) (Nat.le_of_ble_eq_true rfl) (Nat.le_of_ble_eq_true rfl) (Nat.le_of_ble_eq_true rfl) (Nat.le_of_ble_eq_true rfl) ?_
          rintro v ws ⟨rfl, hws⟩
          rw [hws]
          show Vv _ _ _ _ _ _ _ _ _ _ _ _ _ _ _ [.int (nI (stA f r 0))] (0, 0, g)
          refine v_istore_n (lb := [some (.ref 1003), some (.int (nI (na r))), some (.int (if ps = true then 1 else 0)), some (.int (nI (stA f r 0))), none, none, none, none]) X (dk D_Rf_define 12 rfl) (by decide) rfl ?_
          refine v_aload_n X (dk D_Rf_define 13 rfl) rfl ?_
          refine v_iload_n X (dk D_Rf_define 14 rfl) rfl ?_
          refine v_iconst (v := nI (0 + 1)) X (dk D_Rf_define 15 rfl) (by decide) ?_
          refine v_invV (As := [.int (nI (na r)), .int (nI (0 + 1))]) (st := []) X (r_argumentSize l q (i := 0) hS hC (by omega)) (dk D_Rf_define 16 rfl) G_Rf_272 K_Rf_argumentSize V_Rf_argumentSize rfl rfl (hS.lt (by decide)) rfl rfl (Nat.le_of_ble_eq_true rfl) (Nat.le_of_ble_eq_true rfl) (Nat.le_of_ble_eq_true rfl) (Nat.le_of_ble_eq_true rfl) (Nat.le_of_ble_eq_true rfl) ?_
          rintro v ws ⟨rfl, hws⟩
          rw [hws]
          show Vv _ _ _ _ _ _ _ _ _ _ _ _ _ _ _ [.int (nI (f.2.1.getD 0 []).length)] (0, 0, g)
          refine v_istore (lb := [some (.ref 1003), some (.int (nI (na r))), some (.int (if ps = true then 1 else 0)), some (.int (nI (stA f r 0))), some (.int (nI (f.2.1.getD 0 []).length)), none, none, none]) X (dk D_Rf_define 17 rfl) (by decide) rfl ?_
          refine v_iload_n X (dk D_Rf_define 18 rfl) rfl ?_
          refine v_if_eq (tgt := 38) X (dk D_Rf_define 19 rfl) (by decide) (fun _ => ?_) (fun c31 => absurd (by rw [hps]; rfl) c31)
          refine v_aload_n X (dk D_Rf_define 22 rfl) rfl ?_
          refine v_aload_n X (dk D_Rf_define 23 rfl) rfl ?_
          refine v_getF X (dk D_Rf_define 24 rfl) F_Rf_56 rfl rfl (hS.lt (by decide)) (hS.2 1003 35) ?_
          refine v_iload_n X (dk D_Rf_define 25 rfl) rfl ?_
          refine v_iload X (dk D_Rf_define 26 rfl) rfl ?_
          refine v_invV (As := [.ref 1018, .int (nI (stA f r 0)), .int (nI (f.2.1.getD 0 []).length)]) (st := []) X (r_top l q (r := 1018) (N := 16385) (p := stA f r 0) (ys := (f.2.1.getD 0 [])) hS hM rfl (hS.lt (by decide)) (by decide) (by omega) (hC.1.1.arg 0)) (dk D_Rf_define 27 rfl) G_Rf_232 K_Rf_top V_Rf_top rfl rfl (hS.lt (by decide)) rfl rfl (Nat.le_of_ble_eq_true rfl) (Nat.le_of_ble_eq_true rfl) (Nat.le_of_ble_eq_true rfl) (Nat.le_of_ble_eq_true rfl) (Nat.le_of_ble_eq_true rfl) ?_
          rintro v w1 ⟨rfl, hw⟩
          rw [hw, htp]
          show Vv _ _ _ _ _ _ _ _ _ _ _ _ _ _ _ [.int (-1)] (0, 0, g)
          refine v_istore (lb := [some (.ref 1003), some (.int (nI (na r))), some (.int (if ps = true then 1 else 0)), some (.int (nI (stA f r 0))), some (.int (nI (f.2.1.getD 0 []).length)), some (.int (-1)), none, none]) X (dk D_Rf_define 28 rfl) (by decide) rfl ?_
          refine v_iload X (dk D_Rf_define 29 rfl) rfl ?_
          refine v_if_lt (tgt := 70) X (dk D_Rf_define 30 rfl) (by decide) (fun _ => ?_) (fun c53 => absurd (by decide) c53)
          refine v_iconst (v := 0) X (dk D_Rf_define 38 rfl) (by decide) ?_
          refine v_istore (lb := [some (.ref 1003), some (.int (nI (na r))), some (.int (if ps = true then 1 else 0)), some (.int (nI (stA f r 0))), some (.int (nI (f.2.1.getD 0 []).length)), some (.int (-1)), some (.int 0), none]) X (dk D_Rf_define 39 rfl) (by decide) rfl ?_
          refine v_sipush (v := 16384) X (dk D_Rf_define 40 rfl) (by decide) ?_
          refine v_aload_n X (dk D_Rf_define 41 rfl) rfl ?_
          refine v_getI X (dk D_Rf_define 42 rfl) F_Rf_197 rfl rfl (hS.lt (by decide)) ?_
          rw [hM.2.2.2.1]
          refine v_isub X (dk D_Rf_define 43 rfl) ?_
          rw [show (16384 : Int32) - nI (cB M) = nI (16384 - cB M) from pk_sub (a := 16384) (by omega)]
          refine v_iload X (dk D_Rf_define 44 rfl) rfl ?_
          refine v_if_eq (tgt := 104) X (dk D_Rf_define 45 rfl) (by decide) (fun _ => ?_) (fun c83 => absurd rfl c83)
          refine v_iconst (v := nI 0) X (dk D_Rf_define 56 rfl) (by decide) ?_
          refine v_iadd X (dk D_Rf_define 57 rfl) ?_
          rw [nI_add]
          rw [Nat.add_zero]
          refine v_istore (lb := [some (.ref 1003), some (.int (nI (na r))), some (.int (if ps = true then 1 else 0)), some (.int (nI (stA f r 0))), some (.int (nI (f.2.1.getD 0 []).length)), some (.int (-1)), some (.int 0), some (.int (nI (16384 - cB M)))]) X (dk D_Rf_define 58 rfl) (by decide) rfl ?_
          refine v_iload X (dk D_Rf_define 59 rfl) rfl ?_
          refine v_if_ne (tgt := 123) X (dk D_Rf_define 60 rfl) (by decide) (fun c110 => absurd rfl c110) (fun _ => ?_)
          refine v_aload_n X (dk D_Rf_define 61 rfl) rfl ?_
          refine v_getI X (dk D_Rf_define 62 rfl) F_Rf_194 rfl rfl (hS.lt (by decide)) ?_
          refine v_sipush (v := 300) X (dk D_Rf_define 63 rfl) (by decide) ?_
          refine v_icmp_eq (tgt := 137) X (dk D_Rf_define 64 rfl) (by decide) (fun c120 => absurd c120 (by rw [hM.2.2.1, show (300 : Int32) = nI 300 from rfl, nI_eq (by omega) (by decide)]; omega)) (fun _ => ?_)
          refine v_iload X (dk D_Rf_define 65 rfl) rfl ?_
          refine v_aload_n X (dk D_Rf_define 66 rfl) rfl ?_
          refine v_iload_n X (dk D_Rf_define 67 rfl) rfl ?_
          refine v_iconst (v := nI (1 + 1)) X (dk D_Rf_define 68 rfl) (by decide) ?_
          refine v_invV (As := [.int (nI (na r)), .int (nI (1 + 1))]) (st := [.int (nI (f.2.1.getD 0 []).length)]) X (r_argumentSize l q (i := 1) hS hC (by omega)) (dk D_Rf_define 69 rfl) G_Rf_272 K_Rf_argumentSize V_Rf_argumentSize rfl rfl (hS.lt (by decide)) rfl rfl (Nat.le_of_ble_eq_true rfl) (Nat.le_of_ble_eq_true rfl) (Nat.le_of_ble_eq_true rfl) (Nat.le_of_ble_eq_true rfl) (Nat.le_of_ble_eq_true rfl) ?_
          rintro v ws ⟨rfl, hws⟩
          rw [hws]
          show Vv _ _ _ _ _ _ _ _ _ _ _ _ _ _ _ [.int (nI (f.2.1.getD 1 []).length), .int (nI (f.2.1.getD 0 []).length)] (0, 0, g)
          refine v_iadd X (dk D_Rf_define 70 rfl) ?_
          refine v_iload X (dk D_Rf_define 71 rfl) rfl ?_
          refine v_icmp_le (tgt := 144) X (dk D_Rf_define 72 rfl) (by decide) (fun _ => ?_) (fun c134 => absurd (by rw [nI_add]; exact nI_le (by omega) (by omega)) c134)
          refine v_iload X (dk D_Rf_define 77 rfl) rfl ?_
          refine v_if_lt (tgt := 155) X (dk D_Rf_define 78 rfl) (by decide) (fun _ => ?_) (fun c146 => absurd (by decide) c146)
          exact add hnm g M _ _ _ _ hds (rs.rf g _ _) he hM hbd (by have := hbd.1; omega) (by have := hbd.2; omega) (by show cD M + 1 ≤ 300; omega) (by show cB M + _ + _ ≤ 16384; omega) (by rw [mgP_add, cD_1, cB_1])
        · have hdn := hD0.trans (if_neg (fun z => c2 z.2))
          refine v_aload_n X (dk D_Rf_define 0 rfl) rfl ?_
          refine v_iload_n X (dk D_Rf_define 1 rfl) rfl ?_
          refine v_invV (As := [.int (nI (na r))]) (st := []) X (r_isNameArgument l q hS hC) (dk D_Rf_define 2 rfl) G_Rf_315 K_Rf_isNameArgument V_Rf_isNameArgument rfl rfl (hS.lt (by decide)) rfl rfl (Nat.le_of_ble_eq_true rfl) (Nat.le_of_ble_eq_true rfl) (Nat.le_of_ble_eq_true rfl) (Nat.le_of_ble_eq_true rfl) (Nat.le_of_ble_eq_true rfl) ?_
          rintro v w1 ⟨rfl, hw⟩
          rw [hw, if_pos hnm]
          show Vv _ _ _ _ _ _ _ _ _ _ _ _ _ _ _ [.int 1] (0, 0, g)
          refine v_if_ne (tgt := 15) X (dk D_Rf_define 3 rfl) (by decide) (fun _ => ?_) (fun c5 => absurd c5 (by decide))
          refine v_aload_n X (dk D_Rf_define 8 rfl) rfl ?_
          refine v_iload_n X (dk D_Rf_define 9 rfl) rfl ?_
          refine v_iconst (v := nI (0 + 1)) X (dk D_Rf_define 10 rfl) (by decide) ?_
          refine v_invV (As := [.int (nI (na r)), .int (nI (0 + 1))]) (st := []) X (r_argumentAt l q (i := 0) hS hC (by omega)) (dk D_Rf_define 11 rfl) G_Rf_268 K_Rf_argumentAt V_Rf_argumentAt rfl rfl (hS.lt (by decide)) rfl rfl (Nat.le_of_ble_eq_true rfl) (Nat.le_of_ble_eq_true rfl) (Nat.le_of_ble_eq_true rfl) (Nat.le_of_ble_eq_true rfl) (Nat.le_of_ble_eq_true rfl) ?_
          rintro v ws ⟨rfl, hws⟩
          rw [hws]
          show Vv _ _ _ _ _ _ _ _ _ _ _ _ _ _ _ [.int (nI (stA f r 0))] (0, 0, g)
          refine v_istore_n (lb := [some (.ref 1003), some (.int (nI (na r))), some (.int (if ps = true then 1 else 0)), some (.int (nI (stA f r 0))), none, none, none, none]) X (dk D_Rf_define 12 rfl) (by decide) rfl ?_
          refine v_aload_n X (dk D_Rf_define 13 rfl) rfl ?_
          refine v_iload_n X (dk D_Rf_define 14 rfl) rfl ?_
          refine v_iconst (v := nI (0 + 1)) X (dk D_Rf_define 15 rfl) (by decide) ?_
          refine v_invV (As := [.int (nI (na r)), .int (nI (0 + 1))]) (st := []) X (r_argumentSize l q (i := 0) hS hC (by omega)) (dk D_Rf_define 16 rfl) G_Rf_272 K_Rf_argumentSize V_Rf_argumentSize rfl rfl (hS.lt (by decide)) rfl rfl (Nat.le_of_ble_eq_true rfl) (Nat.le_of_ble_eq_true rfl) (Nat.le_of_ble_eq_true rfl) (Nat.le_of_ble_eq_true rfl) (Nat.le_of_ble_eq_true rfl) ?_
          rintro v ws ⟨rfl, hws⟩
          rw [hws]
          show Vv _ _ _ _ _ _ _ _ _ _ _ _ _ _ _ [.int (nI (f.2.1.getD 0 []).length)] (0, 0, g)
          refine v_istore (lb := [some (.ref 1003), some (.int (nI (na r))), some (.int (if ps = true then 1 else 0)), some (.int (nI (stA f r 0))), some (.int (nI (f.2.1.getD 0 []).length)), none, none, none]) X (dk D_Rf_define 17 rfl) (by decide) rfl ?_
          refine v_iload_n X (dk D_Rf_define 18 rfl) rfl ?_
          refine v_if_eq (tgt := 38) X (dk D_Rf_define 19 rfl) (by decide) (fun _ => ?_) (fun c31 => absurd (by rw [hps]; rfl) c31)
          refine v_aload_n X (dk D_Rf_define 22 rfl) rfl ?_
          refine v_aload_n X (dk D_Rf_define 23 rfl) rfl ?_
          refine v_getF X (dk D_Rf_define 24 rfl) F_Rf_56 rfl rfl (hS.lt (by decide)) (hS.2 1003 35) ?_
          refine v_iload_n X (dk D_Rf_define 25 rfl) rfl ?_
          refine v_iload X (dk D_Rf_define 26 rfl) rfl ?_
          refine v_invV (As := [.ref 1018, .int (nI (stA f r 0)), .int (nI (f.2.1.getD 0 []).length)]) (st := []) X (r_top l q (r := 1018) (N := 16385) (p := stA f r 0) (ys := (f.2.1.getD 0 [])) hS hM rfl (hS.lt (by decide)) (by decide) (by omega) (hC.1.1.arg 0)) (dk D_Rf_define 27 rfl) G_Rf_232 K_Rf_top V_Rf_top rfl rfl (hS.lt (by decide)) rfl rfl (Nat.le_of_ble_eq_true rfl) (Nat.le_of_ble_eq_true rfl) (Nat.le_of_ble_eq_true rfl) (Nat.le_of_ble_eq_true rfl) (Nat.le_of_ble_eq_true rfl) ?_
          rintro v w1 ⟨rfl, hw⟩
          rw [hw, htp]
          show Vv _ _ _ _ _ _ _ _ _ _ _ _ _ _ _ [.int (-1)] (0, 0, g)
          refine v_istore (lb := [some (.ref 1003), some (.int (nI (na r))), some (.int (if ps = true then 1 else 0)), some (.int (nI (stA f r 0))), some (.int (nI (f.2.1.getD 0 []).length)), some (.int (-1)), none, none]) X (dk D_Rf_define 28 rfl) (by decide) rfl ?_
          refine v_iload X (dk D_Rf_define 29 rfl) rfl ?_
          refine v_if_lt (tgt := 70) X (dk D_Rf_define 30 rfl) (by decide) (fun _ => ?_) (fun c53 => absurd (by decide) c53)
          refine v_iconst (v := 0) X (dk D_Rf_define 38 rfl) (by decide) ?_
          refine v_istore (lb := [some (.ref 1003), some (.int (nI (na r))), some (.int (if ps = true then 1 else 0)), some (.int (nI (stA f r 0))), some (.int (nI (f.2.1.getD 0 []).length)), some (.int (-1)), some (.int 0), none]) X (dk D_Rf_define 39 rfl) (by decide) rfl ?_
          refine v_sipush (v := 16384) X (dk D_Rf_define 40 rfl) (by decide) ?_
          refine v_aload_n X (dk D_Rf_define 41 rfl) rfl ?_
          refine v_getI X (dk D_Rf_define 42 rfl) F_Rf_197 rfl rfl (hS.lt (by decide)) ?_
          rw [hM.2.2.2.1]
          refine v_isub X (dk D_Rf_define 43 rfl) ?_
          rw [show (16384 : Int32) - nI (cB M) = nI (16384 - cB M) from pk_sub (a := 16384) (by omega)]
          refine v_iload X (dk D_Rf_define 44 rfl) rfl ?_
          refine v_if_eq (tgt := 104) X (dk D_Rf_define 45 rfl) (by decide) (fun _ => ?_) (fun c83 => absurd rfl c83)
          refine v_iconst (v := nI 0) X (dk D_Rf_define 56 rfl) (by decide) ?_
          refine v_iadd X (dk D_Rf_define 57 rfl) ?_
          rw [nI_add]
          rw [Nat.add_zero]
          refine v_istore (lb := [some (.ref 1003), some (.int (nI (na r))), some (.int (if ps = true then 1 else 0)), some (.int (nI (stA f r 0))), some (.int (nI (f.2.1.getD 0 []).length)), some (.int (-1)), some (.int 0), some (.int (nI (16384 - cB M)))]) X (dk D_Rf_define 58 rfl) (by decide) rfl ?_
          refine v_iload X (dk D_Rf_define 59 rfl) rfl ?_
          refine v_if_ne (tgt := 123) X (dk D_Rf_define 60 rfl) (by decide) (fun c110 => absurd rfl c110) (fun _ => ?_)
          refine v_aload_n X (dk D_Rf_define 61 rfl) rfl ?_
          refine v_getI X (dk D_Rf_define 62 rfl) F_Rf_194 rfl rfl (hS.lt (by decide)) ?_
          refine v_sipush (v := 300) X (dk D_Rf_define 63 rfl) (by decide) ?_
          refine v_icmp_eq (tgt := 137) X (dk D_Rf_define 64 rfl) (by decide) (fun c120 => absurd c120 (by rw [hM.2.2.1, show (300 : Int32) = nI 300 from rfl, nI_eq (by omega) (by decide)]; omega)) (fun _ => ?_)
          refine v_iload X (dk D_Rf_define 65 rfl) rfl ?_
          refine v_aload_n X (dk D_Rf_define 66 rfl) rfl ?_
          refine v_iload_n X (dk D_Rf_define 67 rfl) rfl ?_
          refine v_iconst (v := nI (1 + 1)) X (dk D_Rf_define 68 rfl) (by decide) ?_
          refine v_invV (As := [.int (nI (na r)), .int (nI (1 + 1))]) (st := [.int (nI (f.2.1.getD 0 []).length)]) X (r_argumentSize l q (i := 1) hS hC (by omega)) (dk D_Rf_define 69 rfl) G_Rf_272 K_Rf_argumentSize V_Rf_argumentSize rfl rfl (hS.lt (by decide)) rfl rfl (Nat.le_of_ble_eq_true rfl) (Nat.le_of_ble_eq_true rfl) (Nat.le_of_ble_eq_true rfl) (Nat.le_of_ble_eq_true rfl) (Nat.le_of_ble_eq_true rfl) ?_
          rintro v ws ⟨rfl, hws⟩
          rw [hws]
          show Vv _ _ _ _ _ _ _ _ _ _ _ _ _ _ _ [.int (nI (f.2.1.getD 1 []).length), .int (nI (f.2.1.getD 0 []).length)] (0, 0, g)
          refine v_iadd X (dk D_Rf_define 70 rfl) ?_
          refine v_iload X (dk D_Rf_define 71 rfl) rfl ?_
          refine v_icmp_le (tgt := 144) X (dk D_Rf_define 72 rfl) (by decide) (fun c134 => absurd c134 (by rw [nI_add]; exact fun z => absurd ((nI_leI (by omega) (by omega)).mp z) (by omega))) (fun _ => ?_)
          exact err hnm hdn _ _ _
      · have hdn := hD0.trans (if_neg (fun z => c1 z.1))
        refine v_aload_n X (dk D_Rf_define 0 rfl) rfl ?_
        refine v_iload_n X (dk D_Rf_define 1 rfl) rfl ?_
        refine v_invV (As := [.int (nI (na r))]) (st := []) X (r_isNameArgument l q hS hC) (dk D_Rf_define 2 rfl) G_Rf_315 K_Rf_isNameArgument V_Rf_isNameArgument rfl rfl (hS.lt (by decide)) rfl rfl (Nat.le_of_ble_eq_true rfl) (Nat.le_of_ble_eq_true rfl) (Nat.le_of_ble_eq_true rfl) (Nat.le_of_ble_eq_true rfl) (Nat.le_of_ble_eq_true rfl) ?_
        rintro v w1 ⟨rfl, hw⟩
        rw [hw, if_pos hnm]
        show Vv _ _ _ _ _ _ _ _ _ _ _ _ _ _ _ [.int 1] (0, 0, g)
        refine v_if_ne (tgt := 15) X (dk D_Rf_define 3 rfl) (by decide) (fun _ => ?_) (fun c5 => absurd c5 (by decide))
        refine v_aload_n X (dk D_Rf_define 8 rfl) rfl ?_
        refine v_iload_n X (dk D_Rf_define 9 rfl) rfl ?_
        refine v_iconst (v := nI (0 + 1)) X (dk D_Rf_define 10 rfl) (by decide) ?_
        refine v_invV (As := [.int (nI (na r)), .int (nI (0 + 1))]) (st := []) X (r_argumentAt l q (i := 0) hS hC (by omega)) (dk D_Rf_define 11 rfl) G_Rf_268 K_Rf_argumentAt V_Rf_argumentAt rfl rfl (hS.lt (by decide)) rfl rfl (Nat.le_of_ble_eq_true rfl) (Nat.le_of_ble_eq_true rfl) (Nat.le_of_ble_eq_true rfl) (Nat.le_of_ble_eq_true rfl) (Nat.le_of_ble_eq_true rfl) ?_
        rintro v ws ⟨rfl, hws⟩
        rw [hws]
        show Vv _ _ _ _ _ _ _ _ _ _ _ _ _ _ _ [.int (nI (stA f r 0))] (0, 0, g)
        refine v_istore_n (lb := [some (.ref 1003), some (.int (nI (na r))), some (.int (if ps = true then 1 else 0)), some (.int (nI (stA f r 0))), none, none, none, none]) X (dk D_Rf_define 12 rfl) (by decide) rfl ?_
        refine v_aload_n X (dk D_Rf_define 13 rfl) rfl ?_
        refine v_iload_n X (dk D_Rf_define 14 rfl) rfl ?_
        refine v_iconst (v := nI (0 + 1)) X (dk D_Rf_define 15 rfl) (by decide) ?_
        refine v_invV (As := [.int (nI (na r)), .int (nI (0 + 1))]) (st := []) X (r_argumentSize l q (i := 0) hS hC (by omega)) (dk D_Rf_define 16 rfl) G_Rf_272 K_Rf_argumentSize V_Rf_argumentSize rfl rfl (hS.lt (by decide)) rfl rfl (Nat.le_of_ble_eq_true rfl) (Nat.le_of_ble_eq_true rfl) (Nat.le_of_ble_eq_true rfl) (Nat.le_of_ble_eq_true rfl) (Nat.le_of_ble_eq_true rfl) ?_
        rintro v ws ⟨rfl, hws⟩
        rw [hws]
        show Vv _ _ _ _ _ _ _ _ _ _ _ _ _ _ _ [.int (nI (f.2.1.getD 0 []).length)] (0, 0, g)
        refine v_istore (lb := [some (.ref 1003), some (.int (nI (na r))), some (.int (if ps = true then 1 else 0)), some (.int (nI (stA f r 0))), some (.int (nI (f.2.1.getD 0 []).length)), none, none, none]) X (dk D_Rf_define 17 rfl) (by decide) rfl ?_
        refine v_iload_n X (dk D_Rf_define 18 rfl) rfl ?_
        refine v_if_eq (tgt := 38) X (dk D_Rf_define 19 rfl) (by decide) (fun _ => ?_) (fun c31 => absurd (by rw [hps]; rfl) c31)
        refine v_aload_n X (dk D_Rf_define 22 rfl) rfl ?_
        refine v_aload_n X (dk D_Rf_define 23 rfl) rfl ?_
        refine v_getF X (dk D_Rf_define 24 rfl) F_Rf_56 rfl rfl (hS.lt (by decide)) (hS.2 1003 35) ?_
        refine v_iload_n X (dk D_Rf_define 25 rfl) rfl ?_
        refine v_iload X (dk D_Rf_define 26 rfl) rfl ?_
        refine v_invV (As := [.ref 1018, .int (nI (stA f r 0)), .int (nI (f.2.1.getD 0 []).length)]) (st := []) X (r_top l q (r := 1018) (N := 16385) (p := stA f r 0) (ys := (f.2.1.getD 0 [])) hS hM rfl (hS.lt (by decide)) (by decide) (by omega) (hC.1.1.arg 0)) (dk D_Rf_define 27 rfl) G_Rf_232 K_Rf_top V_Rf_top rfl rfl (hS.lt (by decide)) rfl rfl (Nat.le_of_ble_eq_true rfl) (Nat.le_of_ble_eq_true rfl) (Nat.le_of_ble_eq_true rfl) (Nat.le_of_ble_eq_true rfl) (Nat.le_of_ble_eq_true rfl) ?_
        rintro v w1 ⟨rfl, hw⟩
        rw [hw, htp]
        show Vv _ _ _ _ _ _ _ _ _ _ _ _ _ _ _ [.int (-1)] (0, 0, g)
        refine v_istore (lb := [some (.ref 1003), some (.int (nI (na r))), some (.int (if ps = true then 1 else 0)), some (.int (nI (stA f r 0))), some (.int (nI (f.2.1.getD 0 []).length)), some (.int (-1)), none, none]) X (dk D_Rf_define 28 rfl) (by decide) rfl ?_
        refine v_iload X (dk D_Rf_define 29 rfl) rfl ?_
        refine v_if_lt (tgt := 70) X (dk D_Rf_define 30 rfl) (by decide) (fun _ => ?_) (fun c53 => absurd (by decide) c53)
        refine v_iconst (v := 0) X (dk D_Rf_define 38 rfl) (by decide) ?_
        refine v_istore (lb := [some (.ref 1003), some (.int (nI (na r))), some (.int (if ps = true then 1 else 0)), some (.int (nI (stA f r 0))), some (.int (nI (f.2.1.getD 0 []).length)), some (.int (-1)), some (.int 0), none]) X (dk D_Rf_define 39 rfl) (by decide) rfl ?_
        refine v_sipush (v := 16384) X (dk D_Rf_define 40 rfl) (by decide) ?_
        refine v_aload_n X (dk D_Rf_define 41 rfl) rfl ?_
        refine v_getI X (dk D_Rf_define 42 rfl) F_Rf_197 rfl rfl (hS.lt (by decide)) ?_
        rw [hM.2.2.2.1]
        refine v_isub X (dk D_Rf_define 43 rfl) ?_
        rw [show (16384 : Int32) - nI (cB M) = nI (16384 - cB M) from pk_sub (a := 16384) (by omega)]
        refine v_iload X (dk D_Rf_define 44 rfl) rfl ?_
        refine v_if_eq (tgt := 104) X (dk D_Rf_define 45 rfl) (by decide) (fun _ => ?_) (fun c83 => absurd rfl c83)
        refine v_iconst (v := nI 0) X (dk D_Rf_define 56 rfl) (by decide) ?_
        refine v_iadd X (dk D_Rf_define 57 rfl) ?_
        rw [nI_add]
        rw [Nat.add_zero]
        refine v_istore (lb := [some (.ref 1003), some (.int (nI (na r))), some (.int (if ps = true then 1 else 0)), some (.int (nI (stA f r 0))), some (.int (nI (f.2.1.getD 0 []).length)), some (.int (-1)), some (.int 0), some (.int (nI (16384 - cB M)))]) X (dk D_Rf_define 58 rfl) (by decide) rfl ?_
        refine v_iload X (dk D_Rf_define 59 rfl) rfl ?_
        refine v_if_ne (tgt := 123) X (dk D_Rf_define 60 rfl) (by decide) (fun c110 => absurd rfl c110) (fun _ => ?_)
        refine v_aload_n X (dk D_Rf_define 61 rfl) rfl ?_
        refine v_getI X (dk D_Rf_define 62 rfl) F_Rf_194 rfl rfl (hS.lt (by decide)) ?_
        refine v_sipush (v := 300) X (dk D_Rf_define 63 rfl) (by decide) ?_
        refine v_icmp_eq (tgt := 137) X (dk D_Rf_define 64 rfl) (by decide) (fun _ => ?_) (fun c120 => absurd (by rw [hM.2.2.1, show cD M = 300 by omega]; rfl) c120)
        exact err hnm hdn _ _ _
    · have hat := (show RM g (A ++ e :: B) from hMA ▸ hM).at.1
      have hAl : A.length < 317 := by have := hM.2.2.2.2.2.2.1; rw [hMA, List.length_append, List.length_cons] at this; omega
      have hem : e ∈ M := by rw [hMA]; exact List.mem_append_right _ (List.mem_cons_self ..)
      have hPn : mgP M (f.2.1.getD 0 []) = e.2 :: mgP A (f.2.1.getD 0 []) := by rw [hMA]; exact mgP_top heq hB
      have hbe := bnd_del (hMA ▸ hbd)
      have hel : e.1.length = (f.2.1.getD 0 []).length := by rw [heq]
      have hlE : (mB e).length = (f.2.1.getD 0 []).length + e.2.2.length := by rw [mB, List.length_append, heq]
      have hMl : (mT M).length = (mT (A ++ B)).length + (mB e).length := by rw [hMA, mT_app, mT_app, show mT (e :: B) = mB e ++ mT B from rfl, List.length_append, List.length_append, List.length_append]; omega
      cases heb : e.2.1 with
      | none =>
        have hcD : cD M = cD (A ++ B) + 1 := by rw [hMA, cD_app, cD_app, cD, if_pos heb]; omega
        have hcB : cB M = cB (A ++ B) + (mB e).length := by rw [hMA, cB_app, cB_app, cB, uB, if_pos heb]; omega
        have hSF : (dfn ps (f.2.1.getD 0 []) (f.2.1.getD 1 []) S.1 S.2.1 S.2.2) = dfn false (f.2.1.getD 0 []) (f.2.1.getD 1 []) (mgP M) (cD M) (cB M) := hSD.trans (by rw [hps])
        have hD0 := hSF.trans (dfn_u (old := e.2.2) (L := mgP A (f.2.1.getD 0 [])) (by rw [hPn, ← heb]))
        by_cases c2 : cB M + (f.2.1.getD 1 []).length ≤ 16384 + e.2.2.length
        · have hds := hD0.trans (if_pos c2)
          refine v_aload_n X (dk D_Rf_define 0 rfl) rfl ?_
          refine v_iload_n X (dk D_Rf_define 1 rfl) rfl ?_
          refine v_invV (As := [.int (nI (na r))]) (st := []) X (r_isNameArgument l q hS hC) (dk D_Rf_define 2 rfl) G_Rf_315 K_Rf_isNameArgument V_Rf_isNameArgument rfl rfl (hS.lt (by decide)) rfl rfl (Nat.le_of_ble_eq_true rfl) (Nat.le_of_ble_eq_true rfl) (Nat.le_of_ble_eq_true rfl) (Nat.le_of_ble_eq_true rfl) (Nat.le_of_ble_eq_true rfl) ?_
          rintro v w1 ⟨rfl, hw⟩
          rw [hw, if_pos hnm]
          show Vv _ _ _ _ _ _ _ _ _ _ _ _ _ _ _ [.int 1] (0, 0, g)
          refine v_if_ne (tgt := 15) X (dk D_Rf_define 3 rfl) (by decide) (fun _ => ?_) (fun c5 => absurd c5 (by decide))
          refine v_aload_n X (dk D_Rf_define 8 rfl) rfl ?_
          refine v_iload_n X (dk D_Rf_define 9 rfl) rfl ?_
          refine v_iconst (v := nI (0 + 1)) X (dk D_Rf_define 10 rfl) (by decide) ?_
          refine v_invV (As := [.int (nI (na r)), .int (nI (0 + 1))]) (st := []) X (r_argumentAt l q (i := 0) hS hC (by omega)) (dk D_Rf_define 11 rfl) G_Rf_268 K_Rf_argumentAt V_Rf_argumentAt rfl rfl (hS.lt (by decide)) rfl rfl (Nat.le_of_ble_eq_true rfl) (Nat.le_of_ble_eq_true rfl) (Nat.le_of_ble_eq_true rfl) (Nat.le_of_ble_eq_true rfl) (Nat.le_of_ble_eq_true rfl) ?_
          rintro v ws ⟨rfl, hws⟩
          rw [hws]
          show Vv _ _ _ _ _ _ _ _ _ _ _ _ _ _ _ [.int (nI (stA f r 0))] (0, 0, g)
          refine v_istore_n (lb := [some (.ref 1003), some (.int (nI (na r))), some (.int (if ps = true then 1 else 0)), some (.int (nI (stA f r 0))), none, none, none, none]) X (dk D_Rf_define 12 rfl) (by decide) rfl ?_
          refine v_aload_n X (dk D_Rf_define 13 rfl) rfl ?_
          refine v_iload_n X (dk D_Rf_define 14 rfl) rfl ?_
          refine v_iconst (v := nI (0 + 1)) X (dk D_Rf_define 15 rfl) (by decide) ?_
          refine v_invV (As := [.int (nI (na r)), .int (nI (0 + 1))]) (st := []) X (r_argumentSize l q (i := 0) hS hC (by omega)) (dk D_Rf_define 16 rfl) G_Rf_272 K_Rf_argumentSize V_Rf_argumentSize rfl rfl (hS.lt (by decide)) rfl rfl (Nat.le_of_ble_eq_true rfl) (Nat.le_of_ble_eq_true rfl) (Nat.le_of_ble_eq_true rfl) (Nat.le_of_ble_eq_true rfl) (Nat.le_of_ble_eq_true rfl) ?_
          rintro v ws ⟨rfl, hws⟩
          rw [hws]
          show Vv _ _ _ _ _ _ _ _ _ _ _ _ _ _ _ [.int (nI (f.2.1.getD 0 []).length)] (0, 0, g)
          refine v_istore (lb := [some (.ref 1003), some (.int (nI (na r))), some (.int (if ps = true then 1 else 0)), some (.int (nI (stA f r 0))), some (.int (nI (f.2.1.getD 0 []).length)), none, none, none]) X (dk D_Rf_define 17 rfl) (by decide) rfl ?_
          refine v_iload_n X (dk D_Rf_define 18 rfl) rfl ?_
          refine v_if_eq (tgt := 38) X (dk D_Rf_define 19 rfl) (by decide) (fun _ => ?_) (fun c31 => absurd (by rw [hps]; rfl) c31)
          refine v_aload_n X (dk D_Rf_define 22 rfl) rfl ?_
          refine v_aload_n X (dk D_Rf_define 23 rfl) rfl ?_
          refine v_getF X (dk D_Rf_define 24 rfl) F_Rf_56 rfl rfl (hS.lt (by decide)) (hS.2 1003 35) ?_
          refine v_iload_n X (dk D_Rf_define 25 rfl) rfl ?_
          refine v_iload X (dk D_Rf_define 26 rfl) rfl ?_
          refine v_invV (As := [.ref 1018, .int (nI (stA f r 0)), .int (nI (f.2.1.getD 0 []).length)]) (st := []) X (r_top l q (r := 1018) (N := 16385) (p := stA f r 0) (ys := (f.2.1.getD 0 [])) hS hM rfl (hS.lt (by decide)) (by decide) (by omega) (hC.1.1.arg 0)) (dk D_Rf_define 27 rfl) G_Rf_232 K_Rf_top V_Rf_top rfl rfl (hS.lt (by decide)) rfl rfl (Nat.le_of_ble_eq_true rfl) (Nat.le_of_ble_eq_true rfl) (Nat.le_of_ble_eq_true rfl) (Nat.le_of_ble_eq_true rfl) (Nat.le_of_ble_eq_true rfl) ?_
          rintro v w1 ⟨rfl, hw⟩
          rw [hw, htp]
          show Vv _ _ _ _ _ _ _ _ _ _ _ _ _ _ _ [.int (nI A.length)] (0, 0, g)
          refine v_istore (lb := [some (.ref 1003), some (.int (nI (na r))), some (.int (if ps = true then 1 else 0)), some (.int (nI (stA f r 0))), some (.int (nI (f.2.1.getD 0 []).length)), some (.int (nI A.length)), none, none]) X (dk D_Rf_define 28 rfl) (by decide) rfl ?_
          refine v_iload X (dk D_Rf_define 29 rfl) rfl ?_
          refine v_if_lt (tgt := 70) X (dk D_Rf_define 30 rfl) (by decide) (fun c53 => absurd c53 (nI_pos (by omega))) (fun _ => ?_)
          refine v_aload_n X (dk D_Rf_define 31 rfl) rfl ?_
          refine v_getF X (dk D_Rf_define 32 rfl) F_Rf_43 rfl rfl (hS.lt (by decide)) (hS.2 1003 25) ?_
          refine v_iload X (dk D_Rf_define 33 rfl) rfl ?_
          refine v_iald X (dk D_Rf_define 34 rfl) rfl (hS.lt (by decide)) (vp_in_nI (show A.length < 340 by omega) (by decide)) ?_
          refine v_if_ne (tgt := 70) X (dk D_Rf_define 35 rfl) (by decide) (fun c63 => absurd (by rw [nI_clamp (by omega), hat.2.2.2]; exact (bN_0 hM.2.2.2.2.2.2.2.2 hem).mpr heb) c63) (fun _ => ?_)
          refine v_iconst (v := 1) X (dk D_Rf_define 36 rfl) (by decide) ?_
          refine v_goto (tgt := 71) X (dk D_Rf_define 37 rfl) (by decide) ?_
          refine v_istore (lb := [some (.ref 1003), some (.int (nI (na r))), some (.int (if ps = true then 1 else 0)), some (.int (nI (stA f r 0))), some (.int (nI (f.2.1.getD 0 []).length)), some (.int (nI A.length)), some (.int 1), none]) X (dk D_Rf_define 39 rfl) (by decide) rfl ?_
          refine v_sipush (v := 16384) X (dk D_Rf_define 40 rfl) (by decide) ?_
          refine v_aload_n X (dk D_Rf_define 41 rfl) rfl ?_
          refine v_getI X (dk D_Rf_define 42 rfl) F_Rf_197 rfl rfl (hS.lt (by decide)) ?_
          rw [hM.2.2.2.1]
          refine v_isub X (dk D_Rf_define 43 rfl) ?_
          rw [show (16384 : Int32) - nI (cB M) = nI (16384 - cB M) from pk_sub (a := 16384) (by omega)]
          refine v_iload X (dk D_Rf_define 44 rfl) rfl ?_
          refine v_if_eq (tgt := 104) X (dk D_Rf_define 45 rfl) (by decide) (fun c83 => absurd c83 (by decide)) (fun _ => ?_)
          refine v_aload_n X (dk D_Rf_define 46 rfl) rfl ?_
          refine v_getF X (dk D_Rf_define 47 rfl) F_Rf_37 rfl rfl (hS.lt (by decide)) (hS.2 1003 23) ?_
          refine v_iload X (dk D_Rf_define 48 rfl) rfl ?_
          refine v_iald X (dk D_Rf_define 49 rfl) rfl (hS.lt (by decide)) (vp_in_nI (show A.length < 340 by omega) (by decide)) ?_
          rw [nI_clamp (by omega), hat.2.1]
          refine v_aload_n X (dk D_Rf_define 50 rfl) rfl ?_
          refine v_getF X (dk D_Rf_define 51 rfl) F_Rf_40 rfl rfl (hS.lt (by decide)) (hS.2 1003 24) ?_
          refine v_iload X (dk D_Rf_define 52 rfl) rfl ?_
          refine v_iald X (dk D_Rf_define 53 rfl) rfl (hS.lt (by decide)) (vp_in_nI (show A.length < 340 by omega) (by decide)) ?_
          rw [nI_clamp (by omega), hat.2.2.1]
          refine v_iadd X (dk D_Rf_define 54 rfl) ?_
          rw [nI_add]
          refine v_goto (tgt := 105) X (dk D_Rf_define 55 rfl) (by decide) ?_
          refine v_iadd X (dk D_Rf_define 57 rfl) ?_
          rw [nI_add]
          refine v_istore (lb := [some (.ref 1003), some (.int (nI (na r))), some (.int (if ps = true then 1 else 0)), some (.int (nI (stA f r 0))), some (.int (nI (f.2.1.getD 0 []).length)), some (.int (nI A.length)), some (.int 1), some (.int (nI (16384 - cB M + (e.1.length + e.2.2.length))))]) X (dk D_Rf_define 58 rfl) (by decide) rfl ?_
          refine v_iload X (dk D_Rf_define 59 rfl) rfl ?_
          refine v_if_ne (tgt := 123) X (dk D_Rf_define 60 rfl) (by decide) (fun _ => ?_) (fun c110 => absurd c110 (by decide))
          refine v_iload X (dk D_Rf_define 65 rfl) rfl ?_
          refine v_aload_n X (dk D_Rf_define 66 rfl) rfl ?_
          refine v_iload_n X (dk D_Rf_define 67 rfl) rfl ?_
          refine v_iconst (v := nI (1 + 1)) X (dk D_Rf_define 68 rfl) (by decide) ?_
          refine v_invV (As := [.int (nI (na r)), .int (nI (1 + 1))]) (st := [.int (nI (f.2.1.getD 0 []).length)]) X (r_argumentSize l q (i := 1) hS hC (by omega)) (dk D_Rf_define 69 rfl) G_Rf_272 K_Rf_argumentSize V_Rf_argumentSize rfl rfl (hS.lt (by decide)) rfl rfl (Nat.le_of_ble_eq_true rfl) (Nat.le_of_ble_eq_true rfl) (Nat.le_of_ble_eq_true rfl) (Nat.le_of_ble_eq_true rfl) (Nat.le_of_ble_eq_true rfl) ?_
          rintro v ws ⟨rfl, hws⟩
          rw [hws]
          show Vv _ _ _ _ _ _ _ _ _ _ _ _ _ _ _ [.int (nI (f.2.1.getD 1 []).length), .int (nI (f.2.1.getD 0 []).length)] (0, 0, g)
          refine v_iadd X (dk D_Rf_define 70 rfl) ?_
          refine v_iload X (dk D_Rf_define 71 rfl) rfl ?_
          refine v_icmp_le (tgt := 144) X (dk D_Rf_define 72 rfl) (by decide) (fun _ => ?_) (fun c134 => absurd (by rw [nI_add]; exact nI_le (by omega) (by omega)) c134)
          exact f144 hnm A B e _ _ _ hMA hds (by have := hM.2.2.2.2.2.2.1; rw [hMA, List.length_append, List.length_cons] at this; rw [List.length_append]; omega) (by have := hbe.2; omega) (by show cD M ≤ 300; omega) (by show cB M + (f.2.1.getD 1 []).length - e.2.2.length ≤ 16384; omega) (by rw [mgP_swap (e := e) heq hB, cD_1, cB_1, ← hMA, hcD, hcB, hlE]; exact congrArg (Prod.mk _) (congrArg (Prod.mk _) (by omega)))
        · have hdn := hD0.trans (if_neg c2)
          refine v_aload_n X (dk D_Rf_define 0 rfl) rfl ?_
          refine v_iload_n X (dk D_Rf_define 1 rfl) rfl ?_
          refine v_invV (As := [.int (nI (na r))]) (st := []) X (r_isNameArgument l q hS hC) (dk D_Rf_define 2 rfl) G_Rf_315 K_Rf_isNameArgument V_Rf_isNameArgument rfl rfl (hS.lt (by decide)) rfl rfl (Nat.le_of_ble_eq_true rfl) (Nat.le_of_ble_eq_true rfl) (Nat.le_of_ble_eq_true rfl) (Nat.le_of_ble_eq_true rfl) (Nat.le_of_ble_eq_true rfl) ?_
          rintro v w1 ⟨rfl, hw⟩
          rw [hw, if_pos hnm]
          show Vv _ _ _ _ _ _ _ _ _ _ _ _ _ _ _ [.int 1] (0, 0, g)
          refine v_if_ne (tgt := 15) X (dk D_Rf_define 3 rfl) (by decide) (fun _ => ?_) (fun c5 => absurd c5 (by decide))
          refine v_aload_n X (dk D_Rf_define 8 rfl) rfl ?_
          refine v_iload_n X (dk D_Rf_define 9 rfl) rfl ?_
          refine v_iconst (v := nI (0 + 1)) X (dk D_Rf_define 10 rfl) (by decide) ?_
          refine v_invV (As := [.int (nI (na r)), .int (nI (0 + 1))]) (st := []) X (r_argumentAt l q (i := 0) hS hC (by omega)) (dk D_Rf_define 11 rfl) G_Rf_268 K_Rf_argumentAt V_Rf_argumentAt rfl rfl (hS.lt (by decide)) rfl rfl (Nat.le_of_ble_eq_true rfl) (Nat.le_of_ble_eq_true rfl) (Nat.le_of_ble_eq_true rfl) (Nat.le_of_ble_eq_true rfl) (Nat.le_of_ble_eq_true rfl) ?_
          rintro v ws ⟨rfl, hws⟩
          rw [hws]
          show Vv _ _ _ _ _ _ _ _ _ _ _ _ _ _ _ [.int (nI (stA f r 0))] (0, 0, g)
          refine v_istore_n (lb := [some (.ref 1003), some (.int (nI (na r))), some (.int (if ps = true then 1 else 0)), some (.int (nI (stA f r 0))), none, none, none, none]) X (dk D_Rf_define 12 rfl) (by decide) rfl ?_
          refine v_aload_n X (dk D_Rf_define 13 rfl) rfl ?_
          refine v_iload_n X (dk D_Rf_define 14 rfl) rfl ?_
          refine v_iconst (v := nI (0 + 1)) X (dk D_Rf_define 15 rfl) (by decide) ?_
          refine v_invV (As := [.int (nI (na r)), .int (nI (0 + 1))]) (st := []) X (r_argumentSize l q (i := 0) hS hC (by omega)) (dk D_Rf_define 16 rfl) G_Rf_272 K_Rf_argumentSize V_Rf_argumentSize rfl rfl (hS.lt (by decide)) rfl rfl (Nat.le_of_ble_eq_true rfl) (Nat.le_of_ble_eq_true rfl) (Nat.le_of_ble_eq_true rfl) (Nat.le_of_ble_eq_true rfl) (Nat.le_of_ble_eq_true rfl) ?_
          rintro v ws ⟨rfl, hws⟩
          rw [hws]
          show Vv _ _ _ _ _ _ _ _ _ _ _ _ _ _ _ [.int (nI (f.2.1.getD 0 []).length)] (0, 0, g)
          refine v_istore (lb := [some (.ref 1003), some (.int (nI (na r))), some (.int (if ps = true then 1 else 0)), some (.int (nI (stA f r 0))), some (.int (nI (f.2.1.getD 0 []).length)), none, none, none]) X (dk D_Rf_define 17 rfl) (by decide) rfl ?_
          refine v_iload_n X (dk D_Rf_define 18 rfl) rfl ?_
          refine v_if_eq (tgt := 38) X (dk D_Rf_define 19 rfl) (by decide) (fun _ => ?_) (fun c31 => absurd (by rw [hps]; rfl) c31)
          refine v_aload_n X (dk D_Rf_define 22 rfl) rfl ?_
          refine v_aload_n X (dk D_Rf_define 23 rfl) rfl ?_
          refine v_getF X (dk D_Rf_define 24 rfl) F_Rf_56 rfl rfl (hS.lt (by decide)) (hS.2 1003 35) ?_
          refine v_iload_n X (dk D_Rf_define 25 rfl) rfl ?_
          refine v_iload X (dk D_Rf_define 26 rfl) rfl ?_
          refine v_invV (As := [.ref 1018, .int (nI (stA f r 0)), .int (nI (f.2.1.getD 0 []).length)]) (st := []) X (r_top l q (r := 1018) (N := 16385) (p := stA f r 0) (ys := (f.2.1.getD 0 [])) hS hM rfl (hS.lt (by decide)) (by decide) (by omega) (hC.1.1.arg 0)) (dk D_Rf_define 27 rfl) G_Rf_232 K_Rf_top V_Rf_top rfl rfl (hS.lt (by decide)) rfl rfl (Nat.le_of_ble_eq_true rfl) (Nat.le_of_ble_eq_true rfl) (Nat.le_of_ble_eq_true rfl) (Nat.le_of_ble_eq_true rfl) (Nat.le_of_ble_eq_true rfl) ?_
          rintro v w1 ⟨rfl, hw⟩
          rw [hw, htp]
          show Vv _ _ _ _ _ _ _ _ _ _ _ _ _ _ _ [.int (nI A.length)] (0, 0, g)
          refine v_istore (lb := [some (.ref 1003), some (.int (nI (na r))), some (.int (if ps = true then 1 else 0)), some (.int (nI (stA f r 0))), some (.int (nI (f.2.1.getD 0 []).length)), some (.int (nI A.length)), none, none]) X (dk D_Rf_define 28 rfl) (by decide) rfl ?_
          refine v_iload X (dk D_Rf_define 29 rfl) rfl ?_
          refine v_if_lt (tgt := 70) X (dk D_Rf_define 30 rfl) (by decide) (fun c53 => absurd c53 (nI_pos (by omega))) (fun _ => ?_)
          refine v_aload_n X (dk D_Rf_define 31 rfl) rfl ?_
          refine v_getF X (dk D_Rf_define 32 rfl) F_Rf_43 rfl rfl (hS.lt (by decide)) (hS.2 1003 25) ?_
          refine v_iload X (dk D_Rf_define 33 rfl) rfl ?_
          refine v_iald X (dk D_Rf_define 34 rfl) rfl (hS.lt (by decide)) (vp_in_nI (show A.length < 340 by omega) (by decide)) ?_
          refine v_if_ne (tgt := 70) X (dk D_Rf_define 35 rfl) (by decide) (fun c63 => absurd (by rw [nI_clamp (by omega), hat.2.2.2]; exact (bN_0 hM.2.2.2.2.2.2.2.2 hem).mpr heb) c63) (fun _ => ?_)
          refine v_iconst (v := 1) X (dk D_Rf_define 36 rfl) (by decide) ?_
          refine v_goto (tgt := 71) X (dk D_Rf_define 37 rfl) (by decide) ?_
          refine v_istore (lb := [some (.ref 1003), some (.int (nI (na r))), some (.int (if ps = true then 1 else 0)), some (.int (nI (stA f r 0))), some (.int (nI (f.2.1.getD 0 []).length)), some (.int (nI A.length)), some (.int 1), none]) X (dk D_Rf_define 39 rfl) (by decide) rfl ?_
          refine v_sipush (v := 16384) X (dk D_Rf_define 40 rfl) (by decide) ?_
          refine v_aload_n X (dk D_Rf_define 41 rfl) rfl ?_
          refine v_getI X (dk D_Rf_define 42 rfl) F_Rf_197 rfl rfl (hS.lt (by decide)) ?_
          rw [hM.2.2.2.1]
          refine v_isub X (dk D_Rf_define 43 rfl) ?_
          rw [show (16384 : Int32) - nI (cB M) = nI (16384 - cB M) from pk_sub (a := 16384) (by omega)]
          refine v_iload X (dk D_Rf_define 44 rfl) rfl ?_
          refine v_if_eq (tgt := 104) X (dk D_Rf_define 45 rfl) (by decide) (fun c83 => absurd c83 (by decide)) (fun _ => ?_)
          refine v_aload_n X (dk D_Rf_define 46 rfl) rfl ?_
          refine v_getF X (dk D_Rf_define 47 rfl) F_Rf_37 rfl rfl (hS.lt (by decide)) (hS.2 1003 23) ?_
          refine v_iload X (dk D_Rf_define 48 rfl) rfl ?_
          refine v_iald X (dk D_Rf_define 49 rfl) rfl (hS.lt (by decide)) (vp_in_nI (show A.length < 340 by omega) (by decide)) ?_
          rw [nI_clamp (by omega), hat.2.1]
          refine v_aload_n X (dk D_Rf_define 50 rfl) rfl ?_
          refine v_getF X (dk D_Rf_define 51 rfl) F_Rf_40 rfl rfl (hS.lt (by decide)) (hS.2 1003 24) ?_
          refine v_iload X (dk D_Rf_define 52 rfl) rfl ?_
          refine v_iald X (dk D_Rf_define 53 rfl) rfl (hS.lt (by decide)) (vp_in_nI (show A.length < 340 by omega) (by decide)) ?_
          rw [nI_clamp (by omega), hat.2.2.1]
          refine v_iadd X (dk D_Rf_define 54 rfl) ?_
          rw [nI_add]
          refine v_goto (tgt := 105) X (dk D_Rf_define 55 rfl) (by decide) ?_
          refine v_iadd X (dk D_Rf_define 57 rfl) ?_
          rw [nI_add]
          refine v_istore (lb := [some (.ref 1003), some (.int (nI (na r))), some (.int (if ps = true then 1 else 0)), some (.int (nI (stA f r 0))), some (.int (nI (f.2.1.getD 0 []).length)), some (.int (nI A.length)), some (.int 1), some (.int (nI (16384 - cB M + (e.1.length + e.2.2.length))))]) X (dk D_Rf_define 58 rfl) (by decide) rfl ?_
          refine v_iload X (dk D_Rf_define 59 rfl) rfl ?_
          refine v_if_ne (tgt := 123) X (dk D_Rf_define 60 rfl) (by decide) (fun _ => ?_) (fun c110 => absurd c110 (by decide))
          refine v_iload X (dk D_Rf_define 65 rfl) rfl ?_
          refine v_aload_n X (dk D_Rf_define 66 rfl) rfl ?_
          refine v_iload_n X (dk D_Rf_define 67 rfl) rfl ?_
          refine v_iconst (v := nI (1 + 1)) X (dk D_Rf_define 68 rfl) (by decide) ?_
          refine v_invV (As := [.int (nI (na r)), .int (nI (1 + 1))]) (st := [.int (nI (f.2.1.getD 0 []).length)]) X (r_argumentSize l q (i := 1) hS hC (by omega)) (dk D_Rf_define 69 rfl) G_Rf_272 K_Rf_argumentSize V_Rf_argumentSize rfl rfl (hS.lt (by decide)) rfl rfl (Nat.le_of_ble_eq_true rfl) (Nat.le_of_ble_eq_true rfl) (Nat.le_of_ble_eq_true rfl) (Nat.le_of_ble_eq_true rfl) (Nat.le_of_ble_eq_true rfl) ?_
          rintro v ws ⟨rfl, hws⟩
          rw [hws]
          show Vv _ _ _ _ _ _ _ _ _ _ _ _ _ _ _ [.int (nI (f.2.1.getD 1 []).length), .int (nI (f.2.1.getD 0 []).length)] (0, 0, g)
          refine v_iadd X (dk D_Rf_define 70 rfl) ?_
          refine v_iload X (dk D_Rf_define 71 rfl) rfl ?_
          refine v_icmp_le (tgt := 144) X (dk D_Rf_define 72 rfl) (by decide) (fun c134 => absurd c134 (by rw [nI_add]; exact fun z => absurd ((nI_leI (by omega) (by omega)).mp z) (by omega))) (fun _ => ?_)
          exact err hnm hdn _ _ _
      | some c =>
        have hcD : cD M = cD (A ++ B) := by rw [hMA, cD_app, cD_app, cD, if_neg (by rw [heb]; exact fun z => (by cases z)), Nat.zero_add]
        have hcB : cB M = cB (A ++ B) := by rw [hMA, cB_app, cB_app, cB, uB, if_neg (by rw [heb]; exact fun z => (by cases z)), Nat.zero_add]
        have hSF : (dfn ps (f.2.1.getD 0 []) (f.2.1.getD 1 []) S.1 S.2.1 S.2.2) = dfn false (f.2.1.getD 0 []) (f.2.1.getD 1 []) (mgP M) (cD M) (cB M) := hSD.trans (by rw [hps])
        have hD0 := hSF.trans (dfn_b (c := c) (x := e.2.2) (L := mgP A (f.2.1.getD 0 [])) (by rw [hPn, ← heb]))
        by_cases c1 : cD M < 300
        · by_cases c2 : cB M + (f.2.1.getD 0 []).length + (f.2.1.getD 1 []).length ≤ 16384
          · have hds := hD0.trans (if_pos ⟨c1, c2⟩)
            refine v_aload_n X (dk D_Rf_define 0 rfl) rfl ?_
            refine v_iload_n X (dk D_Rf_define 1 rfl) rfl ?_
            refine v_invV (As := [.int (nI (na r))]) (st := []) X (r_isNameArgument l q hS hC) (dk D_Rf_define 2 rfl) G_Rf_315 K_Rf_isNameArgument V_Rf_isNameArgument rfl rfl (hS.lt (by decide)) rfl rfl (Nat.le_of_ble_eq_true rfl) (Nat.le_of_ble_eq_true rfl) (Nat.le_of_ble_eq_true rfl) (Nat.le_of_ble_eq_true rfl) (Nat.le_of_ble_eq_true rfl) ?_
            rintro v w1 ⟨rfl, hw⟩
            rw [hw, if_pos hnm]
            show Vv _ _ _ _ _ _ _ _ _ _ _ _ _ _ _ [.int 1] (0, 0, g)
            refine v_if_ne (tgt := 15) X (dk D_Rf_define 3 rfl) (by decide) (fun _ => ?_) (fun c5 => absurd c5 (by decide))
            refine v_aload_n X (dk D_Rf_define 8 rfl) rfl ?_
            refine v_iload_n X (dk D_Rf_define 9 rfl) rfl ?_
            refine v_iconst (v := nI (0 + 1)) X (dk D_Rf_define 10 rfl) (by decide) ?_
            refine v_invV (As := [.int (nI (na r)), .int (nI (0 + 1))]) (st := []) X (r_argumentAt l q (i := 0) hS hC (by omega)) (dk D_Rf_define 11 rfl) G_Rf_268 K_Rf_argumentAt V_Rf_argumentAt rfl rfl (hS.lt (by decide)) rfl rfl (Nat.le_of_ble_eq_true rfl) (Nat.le_of_ble_eq_true rfl) (Nat.le_of_ble_eq_true rfl) (Nat.le_of_ble_eq_true rfl) (Nat.le_of_ble_eq_true rfl) ?_
            rintro v ws ⟨rfl, hws⟩
            rw [hws]
            show Vv _ _ _ _ _ _ _ _ _ _ _ _ _ _ _ [.int (nI (stA f r 0))] (0, 0, g)
            refine v_istore_n (lb := [some (.ref 1003), some (.int (nI (na r))), some (.int (if ps = true then 1 else 0)), some (.int (nI (stA f r 0))), none, none, none, none]) X (dk D_Rf_define 12 rfl) (by decide) rfl ?_
            refine v_aload_n X (dk D_Rf_define 13 rfl) rfl ?_
            refine v_iload_n X (dk D_Rf_define 14 rfl) rfl ?_
            refine v_iconst (v := nI (0 + 1)) X (dk D_Rf_define 15 rfl) (by decide) ?_
            refine v_invV (As := [.int (nI (na r)), .int (nI (0 + 1))]) (st := []) X (r_argumentSize l q (i := 0) hS hC (by omega)) (dk D_Rf_define 16 rfl) G_Rf_272 K_Rf_argumentSize V_Rf_argumentSize rfl rfl (hS.lt (by decide)) rfl rfl (Nat.le_of_ble_eq_true rfl) (Nat.le_of_ble_eq_true rfl) (Nat.le_of_ble_eq_true rfl) (Nat.le_of_ble_eq_true rfl) (Nat.le_of_ble_eq_true rfl) ?_
            rintro v ws ⟨rfl, hws⟩
            rw [hws]
            show Vv _ _ _ _ _ _ _ _ _ _ _ _ _ _ _ [.int (nI (f.2.1.getD 0 []).length)] (0, 0, g)
            refine v_istore (lb := [some (.ref 1003), some (.int (nI (na r))), some (.int (if ps = true then 1 else 0)), some (.int (nI (stA f r 0))), some (.int (nI (f.2.1.getD 0 []).length)), none, none, none]) X (dk D_Rf_define 17 rfl) (by decide) rfl ?_
            refine v_iload_n X (dk D_Rf_define 18 rfl) rfl ?_
            refine v_if_eq (tgt := 38) X (dk D_Rf_define 19 rfl) (by decide) (fun _ => ?_) (fun c31 => absurd (by rw [hps]; rfl) c31)
            refine v_aload_n X (dk D_Rf_define 22 rfl) rfl ?_
            refine v_aload_n X (dk D_Rf_define 23 rfl) rfl ?_
            refine v_getF X (dk D_Rf_define 24 rfl) F_Rf_56 rfl rfl (hS.lt (by decide)) (hS.2 1003 35) ?_
            refine v_iload_n X (dk D_Rf_define 25 rfl) rfl ?_
            refine v_iload X (dk D_Rf_define 26 rfl) rfl ?_
            refine v_invV (As := [.ref 1018, .int (nI (stA f r 0)), .int (nI (f.2.1.getD 0 []).length)]) (st := []) X (r_top l q (r := 1018) (N := 16385) (p := stA f r 0) (ys := (f.2.1.getD 0 [])) hS hM rfl (hS.lt (by decide)) (by decide) (by omega) (hC.1.1.arg 0)) (dk D_Rf_define 27 rfl) G_Rf_232 K_Rf_top V_Rf_top rfl rfl (hS.lt (by decide)) rfl rfl (Nat.le_of_ble_eq_true rfl) (Nat.le_of_ble_eq_true rfl) (Nat.le_of_ble_eq_true rfl) (Nat.le_of_ble_eq_true rfl) (Nat.le_of_ble_eq_true rfl) ?_
            rintro v w1 ⟨rfl, hw⟩
            rw [hw, htp]
            show Vv _ _ _ _ _ _ _ _ _ _ _ _ _ _ _ [.int (nI A.length)] (0, 0, g)
            refine v_istore (lb := [some (.ref 1003), some (.int (nI (na r))), some (.int (if ps = true then 1 else 0)), some (.int (nI (stA f r 0))), some (.int (nI (f.2.1.getD 0 []).length)), some (.int (nI A.length)), none, none]) X (dk D_Rf_define 28 rfl) (by decide) rfl ?_
            refine v_iload X (dk D_Rf_define 29 rfl) rfl ?_
            refine v_if_lt (tgt := 70) X (dk D_Rf_define 30 rfl) (by decide) (fun c53 => absurd c53 (nI_pos (by omega))) (fun _ => ?_)
            refine v_aload_n X (dk D_Rf_define 31 rfl) rfl ?_
            refine v_getF X (dk D_Rf_define 32 rfl) F_Rf_43 rfl rfl (hS.lt (by decide)) (hS.2 1003 25) ?_
            refine v_iload X (dk D_Rf_define 33 rfl) rfl ?_
            refine v_iald X (dk D_Rf_define 34 rfl) rfl (hS.lt (by decide)) (vp_in_nI (show A.length < 340 by omega) (by decide)) ?_
            refine v_if_ne (tgt := 70) X (dk D_Rf_define 35 rfl) (by decide) (fun _ => ?_) (fun c63 => absurd c63 (by rw [nI_clamp (by omega), hat.2.2.2]; exact fun z => (by rw [(bN_0 hM.2.2.2.2.2.2.2.2 hem).mp z] at heb; cases heb)))
            refine v_iconst (v := 0) X (dk D_Rf_define 38 rfl) (by decide) ?_
            refine v_istore (lb := [some (.ref 1003), some (.int (nI (na r))), some (.int (if ps = true then 1 else 0)), some (.int (nI (stA f r 0))), some (.int (nI (f.2.1.getD 0 []).length)), some (.int (nI A.length)), some (.int 0), none]) X (dk D_Rf_define 39 rfl) (by decide) rfl ?_
            refine v_sipush (v := 16384) X (dk D_Rf_define 40 rfl) (by decide) ?_
            refine v_aload_n X (dk D_Rf_define 41 rfl) rfl ?_
            refine v_getI X (dk D_Rf_define 42 rfl) F_Rf_197 rfl rfl (hS.lt (by decide)) ?_
            rw [hM.2.2.2.1]
            refine v_isub X (dk D_Rf_define 43 rfl) ?_
            rw [show (16384 : Int32) - nI (cB M) = nI (16384 - cB M) from pk_sub (a := 16384) (by omega)]
            refine v_iload X (dk D_Rf_define 44 rfl) rfl ?_
            refine v_if_eq (tgt := 104) X (dk D_Rf_define 45 rfl) (by decide) (fun _ => ?_) (fun c83 => absurd rfl c83)
            refine v_iconst (v := nI 0) X (dk D_Rf_define 56 rfl) (by decide) ?_
            refine v_iadd X (dk D_Rf_define 57 rfl) ?_
            rw [nI_add]
            rw [Nat.add_zero]
            refine v_istore (lb := [some (.ref 1003), some (.int (nI (na r))), some (.int (if ps = true then 1 else 0)), some (.int (nI (stA f r 0))), some (.int (nI (f.2.1.getD 0 []).length)), some (.int (nI A.length)), some (.int 0), some (.int (nI (16384 - cB M)))]) X (dk D_Rf_define 58 rfl) (by decide) rfl ?_
            refine v_iload X (dk D_Rf_define 59 rfl) rfl ?_
            refine v_if_ne (tgt := 123) X (dk D_Rf_define 60 rfl) (by decide) (fun c110 => absurd rfl c110) (fun _ => ?_)
            refine v_aload_n X (dk D_Rf_define 61 rfl) rfl ?_
            refine v_getI X (dk D_Rf_define 62 rfl) F_Rf_194 rfl rfl (hS.lt (by decide)) ?_
            refine v_sipush (v := 300) X (dk D_Rf_define 63 rfl) (by decide) ?_
            refine v_icmp_eq (tgt := 137) X (dk D_Rf_define 64 rfl) (by decide) (fun c120 => absurd c120 (by rw [hM.2.2.1, show (300 : Int32) = nI 300 from rfl, nI_eq (by omega) (by decide)]; omega)) (fun _ => ?_)
            refine v_iload X (dk D_Rf_define 65 rfl) rfl ?_
            refine v_aload_n X (dk D_Rf_define 66 rfl) rfl ?_
            refine v_iload_n X (dk D_Rf_define 67 rfl) rfl ?_
            refine v_iconst (v := nI (1 + 1)) X (dk D_Rf_define 68 rfl) (by decide) ?_
            refine v_invV (As := [.int (nI (na r)), .int (nI (1 + 1))]) (st := [.int (nI (f.2.1.getD 0 []).length)]) X (r_argumentSize l q (i := 1) hS hC (by omega)) (dk D_Rf_define 69 rfl) G_Rf_272 K_Rf_argumentSize V_Rf_argumentSize rfl rfl (hS.lt (by decide)) rfl rfl (Nat.le_of_ble_eq_true rfl) (Nat.le_of_ble_eq_true rfl) (Nat.le_of_ble_eq_true rfl) (Nat.le_of_ble_eq_true rfl) (Nat.le_of_ble_eq_true rfl) ?_
            rintro v ws ⟨rfl, hws⟩
            rw [hws]
            show Vv _ _ _ _ _ _ _ _ _ _ _ _ _ _ _ [.int (nI (f.2.1.getD 1 []).length), .int (nI (f.2.1.getD 0 []).length)] (0, 0, g)
            refine v_iadd X (dk D_Rf_define 70 rfl) ?_
            refine v_iload X (dk D_Rf_define 71 rfl) rfl ?_
            refine v_icmp_le (tgt := 144) X (dk D_Rf_define 72 rfl) (by decide) (fun _ => ?_) (fun c134 => absurd (by rw [nI_add]; exact nI_le (by omega) (by omega)) c134)
            exact f144 hnm A B e _ _ _ hMA hds (by have := hM.2.2.2.2.2.2.1; rw [hMA, List.length_append, List.length_cons] at this; rw [List.length_append]; omega) (by have := hbe.2; omega) (by show cD M + 1 ≤ 300; omega) (by show cB M + _ + _ ≤ 16384; omega) (by rw [mgP_swap (e := e) heq hB, cD_1, cB_1, ← hMA, hcD, hcB])
          · have hdn := hD0.trans (if_neg (fun z => c2 z.2))
            refine v_aload_n X (dk D_Rf_define 0 rfl) rfl ?_
            refine v_iload_n X (dk D_Rf_define 1 rfl) rfl ?_
            refine v_invV (As := [.int (nI (na r))]) (st := []) X (r_isNameArgument l q hS hC) (dk D_Rf_define 2 rfl) G_Rf_315 K_Rf_isNameArgument V_Rf_isNameArgument rfl rfl (hS.lt (by decide)) rfl rfl (Nat.le_of_ble_eq_true rfl) (Nat.le_of_ble_eq_true rfl) (Nat.le_of_ble_eq_true rfl) (Nat.le_of_ble_eq_true rfl) (Nat.le_of_ble_eq_true rfl) ?_
            rintro v w1 ⟨rfl, hw⟩
            rw [hw, if_pos hnm]
            show Vv _ _ _ _ _ _ _ _ _ _ _ _ _ _ _ [.int 1] (0, 0, g)
            refine v_if_ne (tgt := 15) X (dk D_Rf_define 3 rfl) (by decide) (fun _ => ?_) (fun c5 => absurd c5 (by decide))
            refine v_aload_n X (dk D_Rf_define 8 rfl) rfl ?_
            refine v_iload_n X (dk D_Rf_define 9 rfl) rfl ?_
            refine v_iconst (v := nI (0 + 1)) X (dk D_Rf_define 10 rfl) (by decide) ?_
            refine v_invV (As := [.int (nI (na r)), .int (nI (0 + 1))]) (st := []) X (r_argumentAt l q (i := 0) hS hC (by omega)) (dk D_Rf_define 11 rfl) G_Rf_268 K_Rf_argumentAt V_Rf_argumentAt rfl rfl (hS.lt (by decide)) rfl rfl (Nat.le_of_ble_eq_true rfl) (Nat.le_of_ble_eq_true rfl) (Nat.le_of_ble_eq_true rfl) (Nat.le_of_ble_eq_true rfl) (Nat.le_of_ble_eq_true rfl) ?_
            rintro v ws ⟨rfl, hws⟩
            rw [hws]
            show Vv _ _ _ _ _ _ _ _ _ _ _ _ _ _ _ [.int (nI (stA f r 0))] (0, 0, g)
            refine v_istore_n (lb := [some (.ref 1003), some (.int (nI (na r))), some (.int (if ps = true then 1 else 0)), some (.int (nI (stA f r 0))), none, none, none, none]) X (dk D_Rf_define 12 rfl) (by decide) rfl ?_
            refine v_aload_n X (dk D_Rf_define 13 rfl) rfl ?_
            refine v_iload_n X (dk D_Rf_define 14 rfl) rfl ?_
            refine v_iconst (v := nI (0 + 1)) X (dk D_Rf_define 15 rfl) (by decide) ?_
            refine v_invV (As := [.int (nI (na r)), .int (nI (0 + 1))]) (st := []) X (r_argumentSize l q (i := 0) hS hC (by omega)) (dk D_Rf_define 16 rfl) G_Rf_272 K_Rf_argumentSize V_Rf_argumentSize rfl rfl (hS.lt (by decide)) rfl rfl (Nat.le_of_ble_eq_true rfl) (Nat.le_of_ble_eq_true rfl) (Nat.le_of_ble_eq_true rfl) (Nat.le_of_ble_eq_true rfl) (Nat.le_of_ble_eq_true rfl) ?_
            rintro v ws ⟨rfl, hws⟩
            rw [hws]
            show Vv _ _ _ _ _ _ _ _ _ _ _ _ _ _ _ [.int (nI (f.2.1.getD 0 []).length)] (0, 0, g)
            refine v_istore (lb := [some (.ref 1003), some (.int (nI (na r))), some (.int (if ps = true then 1 else 0)), some (.int (nI (stA f r 0))), some (.int (nI (f.2.1.getD 0 []).length)), none, none, none]) X (dk D_Rf_define 17 rfl) (by decide) rfl ?_
            refine v_iload_n X (dk D_Rf_define 18 rfl) rfl ?_
            refine v_if_eq (tgt := 38) X (dk D_Rf_define 19 rfl) (by decide) (fun _ => ?_) (fun c31 => absurd (by rw [hps]; rfl) c31)
            refine v_aload_n X (dk D_Rf_define 22 rfl) rfl ?_
            refine v_aload_n X (dk D_Rf_define 23 rfl) rfl ?_
            refine v_getF X (dk D_Rf_define 24 rfl) F_Rf_56 rfl rfl (hS.lt (by decide)) (hS.2 1003 35) ?_
            refine v_iload_n X (dk D_Rf_define 25 rfl) rfl ?_
            refine v_iload X (dk D_Rf_define 26 rfl) rfl ?_
            refine v_invV (As := [.ref 1018, .int (nI (stA f r 0)), .int (nI (f.2.1.getD 0 []).length)]) (st := []) X (r_top l q (r := 1018) (N := 16385) (p := stA f r 0) (ys := (f.2.1.getD 0 [])) hS hM rfl (hS.lt (by decide)) (by decide) (by omega) (hC.1.1.arg 0)) (dk D_Rf_define 27 rfl) G_Rf_232 K_Rf_top V_Rf_top rfl rfl (hS.lt (by decide)) rfl rfl (Nat.le_of_ble_eq_true rfl) (Nat.le_of_ble_eq_true rfl) (Nat.le_of_ble_eq_true rfl) (Nat.le_of_ble_eq_true rfl) (Nat.le_of_ble_eq_true rfl) ?_
            rintro v w1 ⟨rfl, hw⟩
            rw [hw, htp]
            show Vv _ _ _ _ _ _ _ _ _ _ _ _ _ _ _ [.int (nI A.length)] (0, 0, g)
            refine v_istore (lb := [some (.ref 1003), some (.int (nI (na r))), some (.int (if ps = true then 1 else 0)), some (.int (nI (stA f r 0))), some (.int (nI (f.2.1.getD 0 []).length)), some (.int (nI A.length)), none, none]) X (dk D_Rf_define 28 rfl) (by decide) rfl ?_
            refine v_iload X (dk D_Rf_define 29 rfl) rfl ?_
            refine v_if_lt (tgt := 70) X (dk D_Rf_define 30 rfl) (by decide) (fun c53 => absurd c53 (nI_pos (by omega))) (fun _ => ?_)
            refine v_aload_n X (dk D_Rf_define 31 rfl) rfl ?_
            refine v_getF X (dk D_Rf_define 32 rfl) F_Rf_43 rfl rfl (hS.lt (by decide)) (hS.2 1003 25) ?_
            refine v_iload X (dk D_Rf_define 33 rfl) rfl ?_
            refine v_iald X (dk D_Rf_define 34 rfl) rfl (hS.lt (by decide)) (vp_in_nI (show A.length < 340 by omega) (by decide)) ?_
            refine v_if_ne (tgt := 70) X (dk D_Rf_define 35 rfl) (by decide) (fun _ => ?_) (fun c63 => absurd c63 (by rw [nI_clamp (by omega), hat.2.2.2]; exact fun z => (by rw [(bN_0 hM.2.2.2.2.2.2.2.2 hem).mp z] at heb; cases heb)))
            refine v_iconst (v := 0) X (dk D_Rf_define 38 rfl) (by decide) ?_
            refine v_istore (lb := [some (.ref 1003), some (.int (nI (na r))), some (.int (if ps = true then 1 else 0)), some (.int (nI (stA f r 0))), some (.int (nI (f.2.1.getD 0 []).length)), some (.int (nI A.length)), some (.int 0), none]) X (dk D_Rf_define 39 rfl) (by decide) rfl ?_
            refine v_sipush (v := 16384) X (dk D_Rf_define 40 rfl) (by decide) ?_
            refine v_aload_n X (dk D_Rf_define 41 rfl) rfl ?_
            refine v_getI X (dk D_Rf_define 42 rfl) F_Rf_197 rfl rfl (hS.lt (by decide)) ?_
            rw [hM.2.2.2.1]
            refine v_isub X (dk D_Rf_define 43 rfl) ?_
            rw [show (16384 : Int32) - nI (cB M) = nI (16384 - cB M) from pk_sub (a := 16384) (by omega)]
            refine v_iload X (dk D_Rf_define 44 rfl) rfl ?_
            refine v_if_eq (tgt := 104) X (dk D_Rf_define 45 rfl) (by decide) (fun _ => ?_) (fun c83 => absurd rfl c83)
            refine v_iconst (v := nI 0) X (dk D_Rf_define 56 rfl) (by decide) ?_
            refine v_iadd X (dk D_Rf_define 57 rfl) ?_
            rw [nI_add]
            rw [Nat.add_zero]
            refine v_istore (lb := [some (.ref 1003), some (.int (nI (na r))), some (.int (if ps = true then 1 else 0)), some (.int (nI (stA f r 0))), some (.int (nI (f.2.1.getD 0 []).length)), some (.int (nI A.length)), some (.int 0), some (.int (nI (16384 - cB M)))]) X (dk D_Rf_define 58 rfl) (by decide) rfl ?_
            refine v_iload X (dk D_Rf_define 59 rfl) rfl ?_
            refine v_if_ne (tgt := 123) X (dk D_Rf_define 60 rfl) (by decide) (fun c110 => absurd rfl c110) (fun _ => ?_)
            refine v_aload_n X (dk D_Rf_define 61 rfl) rfl ?_
            refine v_getI X (dk D_Rf_define 62 rfl) F_Rf_194 rfl rfl (hS.lt (by decide)) ?_
            refine v_sipush (v := 300) X (dk D_Rf_define 63 rfl) (by decide) ?_
            refine v_icmp_eq (tgt := 137) X (dk D_Rf_define 64 rfl) (by decide) (fun c120 => absurd c120 (by rw [hM.2.2.1, show (300 : Int32) = nI 300 from rfl, nI_eq (by omega) (by decide)]; omega)) (fun _ => ?_)
            refine v_iload X (dk D_Rf_define 65 rfl) rfl ?_
            refine v_aload_n X (dk D_Rf_define 66 rfl) rfl ?_
            refine v_iload_n X (dk D_Rf_define 67 rfl) rfl ?_
            refine v_iconst (v := nI (1 + 1)) X (dk D_Rf_define 68 rfl) (by decide) ?_
            refine v_invV (As := [.int (nI (na r)), .int (nI (1 + 1))]) (st := [.int (nI (f.2.1.getD 0 []).length)]) X (r_argumentSize l q (i := 1) hS hC (by omega)) (dk D_Rf_define 69 rfl) G_Rf_272 K_Rf_argumentSize V_Rf_argumentSize rfl rfl (hS.lt (by decide)) rfl rfl (Nat.le_of_ble_eq_true rfl) (Nat.le_of_ble_eq_true rfl) (Nat.le_of_ble_eq_true rfl) (Nat.le_of_ble_eq_true rfl) (Nat.le_of_ble_eq_true rfl) ?_
            rintro v ws ⟨rfl, hws⟩
            rw [hws]
            show Vv _ _ _ _ _ _ _ _ _ _ _ _ _ _ _ [.int (nI (f.2.1.getD 1 []).length), .int (nI (f.2.1.getD 0 []).length)] (0, 0, g)
            refine v_iadd X (dk D_Rf_define 70 rfl) ?_
            refine v_iload X (dk D_Rf_define 71 rfl) rfl ?_
            refine v_icmp_le (tgt := 144) X (dk D_Rf_define 72 rfl) (by decide) (fun c134 => absurd c134 (by rw [nI_add]; exact fun z => absurd ((nI_leI (by omega) (by omega)).mp z) (by omega))) (fun _ => ?_)
            exact err hnm hdn _ _ _
        · have hdn := hD0.trans (if_neg (fun z => c1 z.1))
          refine v_aload_n X (dk D_Rf_define 0 rfl) rfl ?_
          refine v_iload_n X (dk D_Rf_define 1 rfl) rfl ?_
          refine v_invV (As := [.int (nI (na r))]) (st := []) X (r_isNameArgument l q hS hC) (dk D_Rf_define 2 rfl) G_Rf_315 K_Rf_isNameArgument V_Rf_isNameArgument rfl rfl (hS.lt (by decide)) rfl rfl (Nat.le_of_ble_eq_true rfl) (Nat.le_of_ble_eq_true rfl) (Nat.le_of_ble_eq_true rfl) (Nat.le_of_ble_eq_true rfl) (Nat.le_of_ble_eq_true rfl) ?_
          rintro v w1 ⟨rfl, hw⟩
          rw [hw, if_pos hnm]
          show Vv _ _ _ _ _ _ _ _ _ _ _ _ _ _ _ [.int 1] (0, 0, g)
          refine v_if_ne (tgt := 15) X (dk D_Rf_define 3 rfl) (by decide) (fun _ => ?_) (fun c5 => absurd c5 (by decide))
          refine v_aload_n X (dk D_Rf_define 8 rfl) rfl ?_
          refine v_iload_n X (dk D_Rf_define 9 rfl) rfl ?_
          refine v_iconst (v := nI (0 + 1)) X (dk D_Rf_define 10 rfl) (by decide) ?_
          refine v_invV (As := [.int (nI (na r)), .int (nI (0 + 1))]) (st := []) X (r_argumentAt l q (i := 0) hS hC (by omega)) (dk D_Rf_define 11 rfl) G_Rf_268 K_Rf_argumentAt V_Rf_argumentAt rfl rfl (hS.lt (by decide)) rfl rfl (Nat.le_of_ble_eq_true rfl) (Nat.le_of_ble_eq_true rfl) (Nat.le_of_ble_eq_true rfl) (Nat.le_of_ble_eq_true rfl) (Nat.le_of_ble_eq_true rfl) ?_
          rintro v ws ⟨rfl, hws⟩
          rw [hws]
          show Vv _ _ _ _ _ _ _ _ _ _ _ _ _ _ _ [.int (nI (stA f r 0))] (0, 0, g)
          refine v_istore_n (lb := [some (.ref 1003), some (.int (nI (na r))), some (.int (if ps = true then 1 else 0)), some (.int (nI (stA f r 0))), none, none, none, none]) X (dk D_Rf_define 12 rfl) (by decide) rfl ?_
          refine v_aload_n X (dk D_Rf_define 13 rfl) rfl ?_
          refine v_iload_n X (dk D_Rf_define 14 rfl) rfl ?_
          refine v_iconst (v := nI (0 + 1)) X (dk D_Rf_define 15 rfl) (by decide) ?_
          refine v_invV (As := [.int (nI (na r)), .int (nI (0 + 1))]) (st := []) X (r_argumentSize l q (i := 0) hS hC (by omega)) (dk D_Rf_define 16 rfl) G_Rf_272 K_Rf_argumentSize V_Rf_argumentSize rfl rfl (hS.lt (by decide)) rfl rfl (Nat.le_of_ble_eq_true rfl) (Nat.le_of_ble_eq_true rfl) (Nat.le_of_ble_eq_true rfl) (Nat.le_of_ble_eq_true rfl) (Nat.le_of_ble_eq_true rfl) ?_
          rintro v ws ⟨rfl, hws⟩
          rw [hws]
          show Vv _ _ _ _ _ _ _ _ _ _ _ _ _ _ _ [.int (nI (f.2.1.getD 0 []).length)] (0, 0, g)
          refine v_istore (lb := [some (.ref 1003), some (.int (nI (na r))), some (.int (if ps = true then 1 else 0)), some (.int (nI (stA f r 0))), some (.int (nI (f.2.1.getD 0 []).length)), none, none, none]) X (dk D_Rf_define 17 rfl) (by decide) rfl ?_
          refine v_iload_n X (dk D_Rf_define 18 rfl) rfl ?_
          refine v_if_eq (tgt := 38) X (dk D_Rf_define 19 rfl) (by decide) (fun _ => ?_) (fun c31 => absurd (by rw [hps]; rfl) c31)
          refine v_aload_n X (dk D_Rf_define 22 rfl) rfl ?_
          refine v_aload_n X (dk D_Rf_define 23 rfl) rfl ?_
          refine v_getF X (dk D_Rf_define 24 rfl) F_Rf_56 rfl rfl (hS.lt (by decide)) (hS.2 1003 35) ?_
          refine v_iload_n X (dk D_Rf_define 25 rfl) rfl ?_
          refine v_iload X (dk D_Rf_define 26 rfl) rfl ?_
          refine v_invV (As := [.ref 1018, .int (nI (stA f r 0)), .int (nI (f.2.1.getD 0 []).length)]) (st := []) X (r_top l q (r := 1018) (N := 16385) (p := stA f r 0) (ys := (f.2.1.getD 0 [])) hS hM rfl (hS.lt (by decide)) (by decide) (by omega) (hC.1.1.arg 0)) (dk D_Rf_define 27 rfl) G_Rf_232 K_Rf_top V_Rf_top rfl rfl (hS.lt (by decide)) rfl rfl (Nat.le_of_ble_eq_true rfl) (Nat.le_of_ble_eq_true rfl) (Nat.le_of_ble_eq_true rfl) (Nat.le_of_ble_eq_true rfl) (Nat.le_of_ble_eq_true rfl) ?_
          rintro v w1 ⟨rfl, hw⟩
          rw [hw, htp]
          show Vv _ _ _ _ _ _ _ _ _ _ _ _ _ _ _ [.int (nI A.length)] (0, 0, g)
          refine v_istore (lb := [some (.ref 1003), some (.int (nI (na r))), some (.int (if ps = true then 1 else 0)), some (.int (nI (stA f r 0))), some (.int (nI (f.2.1.getD 0 []).length)), some (.int (nI A.length)), none, none]) X (dk D_Rf_define 28 rfl) (by decide) rfl ?_
          refine v_iload X (dk D_Rf_define 29 rfl) rfl ?_
          refine v_if_lt (tgt := 70) X (dk D_Rf_define 30 rfl) (by decide) (fun c53 => absurd c53 (nI_pos (by omega))) (fun _ => ?_)
          refine v_aload_n X (dk D_Rf_define 31 rfl) rfl ?_
          refine v_getF X (dk D_Rf_define 32 rfl) F_Rf_43 rfl rfl (hS.lt (by decide)) (hS.2 1003 25) ?_
          refine v_iload X (dk D_Rf_define 33 rfl) rfl ?_
          refine v_iald X (dk D_Rf_define 34 rfl) rfl (hS.lt (by decide)) (vp_in_nI (show A.length < 340 by omega) (by decide)) ?_
          refine v_if_ne (tgt := 70) X (dk D_Rf_define 35 rfl) (by decide) (fun _ => ?_) (fun c63 => absurd c63 (by rw [nI_clamp (by omega), hat.2.2.2]; exact fun z => (by rw [(bN_0 hM.2.2.2.2.2.2.2.2 hem).mp z] at heb; cases heb)))
          refine v_iconst (v := 0) X (dk D_Rf_define 38 rfl) (by decide) ?_
          refine v_istore (lb := [some (.ref 1003), some (.int (nI (na r))), some (.int (if ps = true then 1 else 0)), some (.int (nI (stA f r 0))), some (.int (nI (f.2.1.getD 0 []).length)), some (.int (nI A.length)), some (.int 0), none]) X (dk D_Rf_define 39 rfl) (by decide) rfl ?_
          refine v_sipush (v := 16384) X (dk D_Rf_define 40 rfl) (by decide) ?_
          refine v_aload_n X (dk D_Rf_define 41 rfl) rfl ?_
          refine v_getI X (dk D_Rf_define 42 rfl) F_Rf_197 rfl rfl (hS.lt (by decide)) ?_
          rw [hM.2.2.2.1]
          refine v_isub X (dk D_Rf_define 43 rfl) ?_
          rw [show (16384 : Int32) - nI (cB M) = nI (16384 - cB M) from pk_sub (a := 16384) (by omega)]
          refine v_iload X (dk D_Rf_define 44 rfl) rfl ?_
          refine v_if_eq (tgt := 104) X (dk D_Rf_define 45 rfl) (by decide) (fun _ => ?_) (fun c83 => absurd rfl c83)
          refine v_iconst (v := nI 0) X (dk D_Rf_define 56 rfl) (by decide) ?_
          refine v_iadd X (dk D_Rf_define 57 rfl) ?_
          rw [nI_add]
          rw [Nat.add_zero]
          refine v_istore (lb := [some (.ref 1003), some (.int (nI (na r))), some (.int (if ps = true then 1 else 0)), some (.int (nI (stA f r 0))), some (.int (nI (f.2.1.getD 0 []).length)), some (.int (nI A.length)), some (.int 0), some (.int (nI (16384 - cB M)))]) X (dk D_Rf_define 58 rfl) (by decide) rfl ?_
          refine v_iload X (dk D_Rf_define 59 rfl) rfl ?_
          refine v_if_ne (tgt := 123) X (dk D_Rf_define 60 rfl) (by decide) (fun c110 => absurd rfl c110) (fun _ => ?_)
          refine v_aload_n X (dk D_Rf_define 61 rfl) rfl ?_
          refine v_getI X (dk D_Rf_define 62 rfl) F_Rf_194 rfl rfl (hS.lt (by decide)) ?_
          refine v_sipush (v := 300) X (dk D_Rf_define 63 rfl) (by decide) ?_
          refine v_icmp_eq (tgt := 137) X (dk D_Rf_define 64 rfl) (by decide) (fun _ => ?_) (fun c120 => absurd (by rw [hM.2.2.1, show cD M = 300 by omega]; rfl) c120)
          exact err hnm hdn _ _ _
