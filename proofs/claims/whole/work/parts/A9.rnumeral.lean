/-! the reference: expressions: the reckoning from a state on; numerals -/
def evR (E : Ev) : Int32 × Int32 := match eRn E.1.length E with
  | none => (38, 0)
  | some e => evF e
theorem evX_R (u : List Int32) : evX u = evR (u, [], [], true, false) := rfl
theorem dgs_le : ∀ (k : Nat) (v : Int32) (n : Nat) (s : List Int32), (dgs k v n s).2.2.length ≤ s.length
  | 0, _, _, s => by rw [dgs]; exact Nat.le_refl _
  | _ + 1, _, _, [] => Nat.le_refl _
  | k + 1, v, n, b :: s => by
    rw [dgs]
    split
    · exact Nat.le_trans (dgs_le k _ _ s) (Nat.le_succ _)
    · exact Nat.le_refl _
theorem eSt_lt {E E2 : Ev} (h : eSt E = some E2) : E2.1.length < E.1.length := by
  obtain ⟨s, vs, ws, due, bz⟩ := E
  cases s with
  | nil => cases h
  | cons b s =>
    rw [eSt_eq] at h
    by_cases c1 : isSpc (b &&& 255) = true
    · rw [if_pos c1] at h
      cases h
      exact Nat.lt_succ_self _
    · rw [if_neg c1] at h
      cases due with
      | true =>
        rw [if_pos rfl] at h
        by_cases c2 : isDig (b &&& 255) = true
        · rw [if_pos c2, nuE] at h
          by_cases c3 : 9 < (dgs 10 0 0 (b :: s)).1
          · rw [if_pos c3] at h; cases h
          · rw [if_neg c3] at h
            cases h
            show (dgs 10 0 0 (b :: s)).2.2.length < _
            rw [dgs, if_pos c2]
            exact Nat.lt_succ_of_le (dgs_le _ _ _ s)
        · rw [if_neg c2, frE] at h
          cases hf : frO (b &&& 255) s with
          | none => rw [hf] at h; cases h
          | some k =>
            rw [hf] at h
            dsimp only at h
            by_cases c4 : 30 ≤ frn ws
            · rw [if_pos c4] at h; cases h
            · rw [if_neg c4] at h
              cases h
              exact Nat.lt_succ_self _
      | false =>
        rw [if_neg (by decide)] at h
        by_cases c5 : b &&& 255 = 41
        · rw [if_pos c5, clE] at h
          cases hr : (rck 1 ws vs bz).2.1 with
          | nil => rw [hr] at h; cases h
          | cons x y =>
            rw [hr] at h
            dsimp only at h
            cases h
            exact Nat.lt_succ_self _
        · rw [if_neg c5, beE] at h
          cases hb : btO (b :: s) with
          | none => rw [hb] at h; cases h
          | some k =>
            rw [hb] at h
            dsimp only at h
            cases h
            show ((b :: s).drop (sgO k).length).length < (b :: s).length
            rw [List.length_drop, List.length_cons]
            have := sgO_len k (btO_lt hb).1
            omega
theorem eRn_fu : ∀ (k m : Nat) (E : Ev), E.1.length ≤ k → E.1.length ≤ m → eRn k E = eRn m E := by
  intro k
  induction k with
  | zero =>
    intro m E hk hm
    have he : E.1 = [] := List.length_eq_zero_iff.mp (by omega)
    cases m with
    | zero => rfl
    | succ m => rw [eRn, eRn, if_pos he]
  | succ k ih =>
    intro m E hk hm
    cases m with
    | zero =>
      have he : E.1 = [] := List.length_eq_zero_iff.mp (by omega)
      rw [eRn, eRn, if_pos he]
    | succ m =>
      rw [eRn, eRn]
      by_cases he : E.1 = []
      · rw [if_pos he, if_pos he]
      · rw [if_neg he, if_neg he]
        cases hs : eSt E with
        | none => rfl
        | some E2 =>
          have := eSt_lt hs
          exact ih m E2 (by omega) (by omega)
theorem evR_some {E E2 : Ev} (h : ¬ E.1 = []) (hs : eSt E = some E2) : evR E = evR E2 := by
  have e : eRn E.1.length E = eRn E2.1.length E2 := by
    rw [eRn_fu E.1.length (E.1.length + 1) E (Nat.le_refl _) (Nat.le_succ _), eRn, if_neg h, hs]
    exact eRn_fu _ _ E2 (Nat.le_of_lt (eSt_lt hs)) (Nat.le_refl _)
  rw [evR, evR, e]
theorem evR_no {E : Ev} (h : ¬ E.1 = []) (hs : eSt E = none) : evR E = (38, 0) := by
  have e : eRn E.1.length E = none := by
    rw [eRn_fu E.1.length (E.1.length + 1) E (Nat.le_refl _) (Nat.le_succ _), eRn, if_neg h, hs]; rfl
  rw [evR, e]
theorem evR_sk : ∀ (s vs : List Int32) (ws : List Nat) (due bz : Bool), evR (s, vs, ws, due, bz) = evR (skB s, vs, ws, due, bz)
  | [], _, _, _, _ => rfl
  | b :: s, vs, ws, due, bz => by
    by_cases c : isSpc (b &&& 255) = true
    · rw [show skB (b :: s) = skB s from if_pos c, ← evR_sk s vs ws due bz]
      exact evR_some (fun z => by cases z) (by rw [eSt_eq, if_pos c])
    · rw [show skB (b :: s) = b :: s from if_neg c]
theorem dig_spc (x : Int32) (h : isDig x = true) : ¬ isSpc x = true := by
  rw [isDig, decide_eq_true_eq] at h
  rw [isSpc, decide_eq_true_eq]
  simp only [← Int32.toInt_inj, Int32.lt_iff_toInt_lt, show (32 : Int32).toInt = 32 from rfl, show (9 : Int32).toInt = 9 from rfl, show (48 : Int32).toInt = 48 from rfl, show (57 : Int32).toInt = 57 from rfl, show (13 : Int32).toInt = 13 from rfl] at h ⊢
  omega
/-- the state after an operand -/
def evU (s : List Int32) (x : Int32) (vs : List Int32) (ws : List Nat) (bz : Bool) : Ev := (s, (rck 11 ws (x :: vs) bz).1, (rck 11 ws (x :: vs) bz).2.1, false, (rck 11 ws (x :: vs) bz).2.2)
theorem evN_no {s vs : List Int32} {ws : List Nat} {bz : Bool} (hd : isDig (sgn s 0) = true) (h : 9 < (dgs 10 0 0 s).1) : evR (s, vs, ws, true, bz) = (38, 0) := by
  cases s with
  | nil => exact absurd hd (by decide)
  | cons b s =>
    have hd2 : isDig (b &&& 255) = true := hd
    exact evR_no (fun z => by cases z) (by rw [eSt_eq, if_neg (dig_spc _ hd2), if_pos rfl, if_pos hd2, nuE, if_pos h])
theorem evN {s vs : List Int32} {ws : List Nat} {bz : Bool} (hd : isDig (sgn s 0) = true) (h : ¬ 9 < (dgs 10 0 0 s).1) : evR (s, vs, ws, true, bz) = evR (evU (dgs 10 0 0 s).2.2 (dgs 10 0 0 s).2.1 vs ws bz) := by
  cases s with
  | nil => exact absurd hd (by decide)
  | cons b s =>
    have hd2 : isDig (b &&& 255) = true := hd
    exact evR_some (fun z => by cases z) (by rw [eSt_eq, if_neg (dig_spc _ hd2), if_pos rfl, if_pos hd2, nuE, if_neg h]; rfl)
theorem evD_nil {vs : List Int32} {ws : List Nat} {bz : Bool} : evR ([], vs, ws, true, bz) = (38, 0) := rfl
def fO (x : Int32) : Nat := if x = 40 then 22 else if x = 43 then 18 else if x = 45 then 19 else if x = 126 then 20 else 21
theorem frO_fO {x : Int32} {s : List Int32} (h : x = 40 ∨ x = 43 ∨ x = 45 ∨ x = 126 ∨ x = 33) : frO x s = some (fO x) ∨ x = 33 ∧ frO x s = none ∧ sgn s 0 = 61 := by
  rcases h with rfl | rfl | rfl | rfl | rfl
  · exact Or.inl rfl
  · exact Or.inl rfl
  · exact Or.inl rfl
  · exact Or.inl rfl
  · rw [show frO 33 s = if atL s (nI 0) = 61 then none else some 21 from rfl]
    by_cases c : atL s (nI 0) = 61
    · refine Or.inr ⟨rfl, if_pos c, ?_⟩
      rw [atL] at c
      split at c
      · exact absurd c (by decide)
      · cases s with
        | nil => exact absurd c (by decide)
        | cons b t => exact c
    · rw [if_neg c]; exact Or.inl rfl
theorem fr_spc {x : Int32} (h : x = 40 ∨ x = 43 ∨ x = 45 ∨ x = 126 ∨ x = 33) : ¬ isSpc x = true ∧ ¬ isDig x = true := by
  rcases h with rfl | rfl | rfl | rfl | rfl <;> decide
/-- nothing that an operand may begin with -/
theorem evD_no {s vs : List Int32} {ws : List Nat} {bz : Bool} (hs : ¬ isSpc (sgn s 0) = true) (hd : ¬ isDig (sgn s 0) = true) (h1 : ¬ sgn s 0 = 40) (h2 : ¬ sgn s 0 = 43) (h3 : ¬ sgn s 0 = 45) (h4 : ¬ sgn s 0 = 126) (h5 : ¬ sgn s 0 = 33) : evR (s, vs, ws, true, bz) = (38, 0) := by
  cases s with
  | nil => rfl
  | cons b s =>
    have e : sgn (b :: s) 0 = b &&& 255 := rfl
    rw [e] at hs hd h1 h2 h3 h4 h5
    exact evR_no (fun z => by cases z) (by rw [eSt_eq, if_neg hs, if_pos rfl, if_neg hd, frE, show frO (b &&& 255) s = none from by rw [frO, if_neg h1, if_neg h2, if_neg h3, if_neg h4, if_neg h5]])
theorem evFr {u vs : List Int32} {p : Nat} {ws : List Nat} {bz : Bool} (h : sgn (u.drop p) 0 = 40 ∨ sgn (u.drop p) 0 = 43 ∨ sgn (u.drop p) 0 = 45 ∨ sgn (u.drop p) 0 = 126 ∨ sgn (u.drop p) 0 = 33) (hp : p < u.length) (hw : frn ws < 30) : evR (u.drop p, vs, ws, true, bz) = evR (u.drop (p + 1), vs, fO (sgn (u.drop p) 0) :: ws, true, bz) := by
  have e : sgn (u.drop p) 0 = u.getD p 0 &&& 255 := sgn_in (by omega)
  rw [e] at h ⊢
  have hq := fr_spc h
  rcases frO_fO (s := u.drop (p + 1)) h with hf | ⟨h33, hf, h61⟩
  · rw [drop_getD hp]
    exact evR_some (fun z => by cases z) (by rw [eSt_eq, if_neg hq.1, if_pos rfl, if_neg hq.2, frE, hf]; exact if_neg (by omega))
  · rw [evD_no (s := u.drop (p + 1)) (by rw [h61]; decide) (by rw [h61]; decide) (by rw [h61]; decide) (by rw [h61]; decide) (by rw [h61]; decide) (by rw [h61]; decide) (by rw [h61]; decide), drop_getD hp]
    exact evR_no (fun z => by cases z) (by rw [eSt_eq, if_neg hq.1, if_pos rfl, if_neg hq.2, frE, hf])
theorem evFr_no {u vs : List Int32} {p : Nat} {ws : List Nat} {bz : Bool} (h : sgn (u.drop p) 0 = 40 ∨ sgn (u.drop p) 0 = 43 ∨ sgn (u.drop p) 0 = 45 ∨ sgn (u.drop p) 0 = 126 ∨ sgn (u.drop p) 0 = 33) (hp : p < u.length) (hw : 30 ≤ frn ws) : evR (u.drop p, vs, ws, true, bz) = (38, 0) := by
  have e : sgn (u.drop p) 0 = u.getD p 0 &&& 255 := sgn_in (by omega)
  rw [e] at h
  have hq := fr_spc h
  rw [drop_getD hp]
  exact evR_no (fun z => by cases z) (by
    rw [eSt_eq, if_neg hq.1, if_pos rfl, if_neg hq.2, frE]
    cases frO (u.getD p 0 &&& 255) (u.drop (p + 1)) with
    | none => rfl
    | some k => exact if_pos hw)
theorem prO_ch : ∀ k, k < 18 → ∀ a b, prO k a b = true → ¬ isSpc a = true ∧ ¬ a = 41 ∧ ¬ a = -1 := by
  intro k hk a b h
  have hc : k = 0 ∨ k = 1 ∨ k = 2 ∨ k = 3 ∨ k = 4 ∨ k = 5 ∨ k = 6 ∨ k = 7 ∨ k = 8 ∨ k = 9 ∨ k = 10 ∨ k = 11 ∨ k = 12 ∨ k = 13 ∨ k = 14 ∨ k = 15 ∨ k = 16 ∨ k = 17 := by omega
  rcases hc with rfl | rfl | rfl | rfl | rfl | rfl | rfl | rfl | rfl | rfl | rfl | rfl | rfl | rfl | rfl | rfl | rfl | rfl
  all_goals first | (have e := (of_decide_eq_true h).1; subst e; decide) | (have e := of_decide_eq_true h; subst e; decide)
theorem evBe {s vs : List Int32} {ws : List Nat} {bz : Bool} {k : Nat} (h : btO s = some k) : evR (s, vs, ws, false, bz) = evR (s.drop (sgO k).length, (rck (opS k) ws vs bz).1, k :: (rck (opS k) ws vs bz).2.1, true, (rck (opS k) ws vs bz).2.2) := by
  obtain ⟨hk, hp⟩ := btO_lt h
  rw [prO_eq s k hk] at hp
  obtain ⟨h1, h2, h3⟩ := prO_ch k hk _ _ hp
  cases s with
  | nil => exact absurd rfl h3
  | cons b s =>
    have h1 : ¬ isSpc (b &&& 255) = true := h1
    have h2 : ¬ b &&& 255 = 41 := h2
    exact evR_some (fun z => by cases z) (by rw [eSt_eq, if_neg h1, if_neg (by decide), if_neg h2, beE, h])
theorem evB_no {s vs : List Int32} {ws : List Nat} {bz : Bool} (h : btO s = none) (h1 : ¬ isSpc (sgn s 0) = true) (h2 : ¬ sgn s 0 = 41) (h3 : ¬ s = []) : evR (s, vs, ws, false, bz) = (38, 0) := by
  cases s with
  | nil => exact absurd rfl h3
  | cons b s =>
    have h1 : ¬ isSpc (b &&& 255) = true := h1
    have h2 : ¬ b &&& 255 = 41 := h2
    exact evR_no (fun z => by cases z) (by rw [eSt_eq, if_neg h1, if_neg (by decide), if_neg h2, beE, h])
theorem evC {u vs V : List Int32} {p : Nat} {ws W : List Nat} {B dv : Bool} {y : Int32} (h : sgn (u.drop p) 0 = 41) (hr : rck 1 W V B = (y :: vs, 22 :: ws, dv)) : evR (u.drop p, V, W, false, B) = evR (evU (u.drop (p + 1)) y vs ws dv) := by
  by_cases hp : p < u.length
  · have e : sgn (u.drop p) 0 = u.getD p 0 &&& 255 := sgn_in (by omega)
    rw [e] at h
    rw [drop_getD hp]
    exact evR_some (fun z => by cases z) (by rw [eSt_eq, if_neg (by rw [h]; decide), if_neg (by decide), if_pos h, clE, hr]; rfl)
  · rw [sgn_out (by omega)] at h
    exact absurd h (by decide)
theorem evC_no {u V : List Int32} {p : Nat} {W : List Nat} {B : Bool} (h : sgn (u.drop p) 0 = 41) (hr : (rck 1 W V B).2.1 = []) : evR (u.drop p, V, W, false, B) = (38, 0) := by
  by_cases hp : p < u.length
  · have e : sgn (u.drop p) 0 = u.getD p 0 &&& 255 := sgn_in (by omega)
    rw [e] at h
    rw [drop_getD hp]
    exact evR_no (fun z => by cases z) (by rw [eSt_eq, if_neg (by rw [h]; decide), if_neg (by decide), if_pos h, clE, hr])
  · rw [sgn_out (by omega)] at h
    exact absurd h (by decide)
theorem dgs_no {k : Nat} {v : Int32} {n : Nat} {s : List Int32} (h : ¬ isDig (sgn s 0) = true) : dgs (k + 1) v n s = (n, v, s) := by
  cases s with
  | nil => rfl
  | cons b s =>
    rw [dgs]
    exact if_neg h
theorem dgs_go {k : Nat} {v : Int32} {n p : Nat} {u : List Int32} (h : isDig (sgn (u.drop p) 0) = true) : p < u.length ∧ dgs (k + 1) v n (u.drop p) = dgs k (10 * v + sgn (u.drop p) 0 - 48) (n + 1) (u.drop (p + 1)) := by
  by_cases hp : p < u.length
  · refine ⟨hp, ?_⟩
    have e : sgn (u.drop p) 0 = u.getD p 0 &&& 255 := sgn_in (by omega)
    rw [e] at h ⊢
    rw [drop_getD hp, dgs, if_pos h, Int32.mul_comm, Int32.sub_eq_add_neg, Int32.sub_eq_add_neg, Int32.add_assoc]
  · rw [sgn_out (by omega)] at h
    exact absurd h (by decide)
set_option maxHeartbeats 4000000 in
set_option maxRecDepth 100000 in
theorem r_numeral (l : Launch) (q : ev_T) {st p : Nat} {u : List Int32} {g : mu_T} (hS : Shp g) (hE : EP g st u p) (hw0 : gI g 1003 41 = 0) (hd : isDig (sgn (u.drop p) 0) = true) (hpu : p ≤ u.length) : Ctr l q M_Rf_numeral 1 [.ref 1003] (0, 0, g) (fun v w => ∃ x p' wr, v = some (.int x) ∧ rs g w.2.2 [39, 41] [] ∧ EP w.2.2 st u p' ∧ gI w.2.2 1003 41 = (if wr = true then 1 else 0) ∧ p < p' ∧ p' ≤ u.length ∧ (wr = true → 9 < (dgs 10 0 0 (u.drop p)).1) ∧ (wr = false → ¬ 9 < (dgs 10 0 0 (u.drop p)).1 ∧ (dgs 10 0 0 (u.drop p)).2.1 = x ∧ (dgs 10 0 0 (u.drop p)).2.2 = u.drop p')) := by
  have hb1 := hE.2.2.2.1
  refine Ctr.mk (lb := [some (.ref 1003), none, none]) (by decide +kernel) (Nat.le_of_ble_eq_true rfl) rfl rfl ?_
  intro pp ee ss mm aa bb mt cd X hrt hlk hnm
  have loop : ∀ (d j : Nat) (v : Int32) (h : mu_T), u.length + 1 ≤ p + j + d → rs g h [39] [] → EP h st u (p + j) → p + j ≤ u.length → (j ≤ 9 ∧ (dgs 10 0 0 (u.drop p)) = dgs (10 - j) v j (u.drop (p + j)) ∨ 9 < j ∧ (dgs 10 0 0 (u.drop p)).1 = 10) → Vv pp l ee (rmT 1 0 0) ss mm aa bb mt cd 3 q (MQ bb (Qw q (fun v w => ∃ x p' wr, v = some (.int x) ∧ rs g w.2.2 [39, 41] [] ∧ EP w.2.2 st u p' ∧ gI w.2.2 1003 41 = (if wr = true then 1 else 0) ∧ p < p' ∧ p' ≤ u.length ∧ (wr = true → 9 < (dgs 10 0 0 (u.drop p)).1) ∧ (wr = false → ¬ 9 < (dgs 10 0 0 (u.drop p)).1 ∧ (dgs 10 0 0 (u.drop p)).2.1 = x ∧ (dgs 10 0 0 (u.drop p)).2.2 = u.drop p'))) aa ss 0 0 (fun a => q.1 ≤ a)) 4 [some (.ref 1003), some (.int v), some (.int (nI j))] [] (0, 0, h) := by
    intro d
    induction d with
    | zero => intro j v h h1 h2 h3 h4; omega
    | succ d ih =>
      intro j v h hjd hs hEh hpl hiv
      have hSh := hs.S hS
      by_cases hdg : isDig (sgn (u.drop (p + j)) 0) = true
      · have hjp := (dgs_go (k := 0) (v := 0) (n := 0) hdg).1
        rcases hiv with ⟨h9, hl⟩ | ⟨h9, hl⟩
        · by_cases c9 : j < 9
          · skip
            refine v_aload_n X (dk D_Rf_numeral 4 rfl) rfl ?_
            refine v_iconst (v := nI 0) X (dk D_Rf_numeral 5 rfl) (by decide) ?_
            refine v_invV (As := [.int (nI 0)]) (st := []) X (r_sign l q (k := 0) hSh hEh (by decide)) (dk D_Rf_numeral 6 rfl) G_Rf_340 K_Rf_sign V_Rf_sign rfl rfl (hSh.lt (by decide)) rfl rfl (Nat.le_of_ble_eq_true rfl) (Nat.le_of_ble_eq_true rfl) (Nat.le_of_ble_eq_true rfl) (Nat.le_of_ble_eq_true rfl) (Nat.le_of_ble_eq_true rfl) ?_
            rintro v1 ws ⟨rfl, hws⟩
            rw [hws]
            show Vv _ _ _ _ _ _ _ _ _ _ _ _ _ _ _ [.int (sgn (u.drop (p + j)) 0)] (0, 0, h)
            refine v_invS (As := [.int (sgn (u.drop (p + j)) 0)]) (st := []) X (r_isDigit l q (b := sgn (u.drop (p + j)) 0) (g := h)) (dk D_Rf_numeral 7 rfl) G_Rf_136 K_Rf_isDigit S_Rf_isDigit rfl rfl (Nat.le_of_ble_eq_true rfl) (Nat.le_of_ble_eq_true rfl) (Nat.le_of_ble_eq_true rfl) (Nat.le_of_ble_eq_true rfl) (Nat.le_of_ble_eq_true rfl) ?_
            rintro v1 ws ⟨rfl, hws⟩
            rw [hws, if_pos hdg]
            show Vv _ _ _ _ _ _ _ _ _ _ _ _ _ _ _ [.int 1] (0, 0, h)
            refine v_if_eq (tgt := 55) X (dk D_Rf_numeral 8 rfl) (by decide) (fun c12 => absurd c12 (by decide)) (fun _ => ?_)
            refine v_iload_n X (dk D_Rf_numeral 9 rfl) rfl ?_
            refine v_bipush (v := 9) X (dk D_Rf_numeral 10 rfl) (by decide) ?_
            refine v_icmp_ge (tgt := 37) X (dk D_Rf_numeral 11 rfl) (by decide) (fun c18 => absurd c18 (nI_ge (b := 9) (by omega) (by decide))) (fun _ => ?_)
            refine v_bipush (v := 10) X (dk D_Rf_numeral 12 rfl) (by decide) ?_
            refine v_iload_n X (dk D_Rf_numeral 13 rfl) rfl ?_
            refine v_imul X (dk D_Rf_numeral 14 rfl) ?_
            refine v_aload_n X (dk D_Rf_numeral 15 rfl) rfl ?_
            refine v_iconst (v := nI 0) X (dk D_Rf_numeral 16 rfl) (by decide) ?_
            refine v_invV (As := [.int (nI 0)]) (st := [.int (10 * v)]) X (r_sign l q (k := 0) hSh hEh (by decide)) (dk D_Rf_numeral 17 rfl) G_Rf_340 K_Rf_sign V_Rf_sign rfl rfl (hSh.lt (by decide)) rfl rfl (Nat.le_of_ble_eq_true rfl) (Nat.le_of_ble_eq_true rfl) (Nat.le_of_ble_eq_true rfl) (Nat.le_of_ble_eq_true rfl) (Nat.le_of_ble_eq_true rfl) ?_
            rintro v1 ws ⟨rfl, hws⟩
            rw [hws]
            show Vv _ _ _ _ _ _ _ _ _ _ _ _ _ _ _ [.int (sgn (u.drop (p + j)) 0), .int (10 * v)] (0, 0, h)
            refine v_iadd X (dk D_Rf_numeral 18 rfl) ?_
            refine v_bipush (v := 48) X (dk D_Rf_numeral 19 rfl) (by decide) ?_
            refine v_isub X (dk D_Rf_numeral 20 rfl) ?_
            refine v_goto (tgt := 38) X (dk D_Rf_numeral 21 rfl) (by decide) ?_
            refine v_istore_n (lb := [some (.ref 1003), some (.int (10 * v + sgn (u.drop (p + j)) 0 - 48)), some (.int (nI j))]) X (dk D_Rf_numeral 23 rfl) (by decide) rfl ?_
            refine v_iinc (v := nI (j + 1)) (lb := [some (.ref 1003), some (.int (10 * v + sgn (u.drop (p + j)) 0 - 48)), some (.int (nI (j + 1)))]) X (dk D_Rf_numeral 24 rfl) rfl (nI_1 _) (by decide) rfl ?_
            refine v_aload_n X (dk D_Rf_numeral 25 rfl) rfl ?_
            refine v_dup X (dk D_Rf_numeral 26 rfl) rfl ?_
            refine v_getI X (dk D_Rf_numeral 27 rfl) F_Rf_334 rfl rfl (hSh.lt (by decide)) ?_
            rw [hEh.1]
            refine v_iconst (v := 1) X (dk D_Rf_numeral 28 rfl) (by decide) ?_
            refine v_iadd X (dk D_Rf_numeral 29 rfl) ?_
            rw [nI_1, Nat.add_assoc st (p + j) 1]
            refine v_putI X (dk D_Rf_numeral 30 rfl) F_Rf_334 CK_Rf rfl rfl (hSh.lt (by decide)) rfl rfl ?_
            refine v_goto (tgt := 4) X (dk D_Rf_numeral 31 rfl) (by decide) ?_
            exact ih (j + 1) _ _ (by omega) (hs.fI (by decide)) (by rw [← Nat.add_assoc]; exact hEh.to (p + j + 1) (by omega)) (by omega) (Or.inl ⟨by omega, by rw [hl, show 10 - j = (10 - (j + 1)) + 1 by omega, (dgs_go hdg).2, ← Nat.add_assoc]⟩)
          · skip
            refine v_aload_n X (dk D_Rf_numeral 4 rfl) rfl ?_
            refine v_iconst (v := nI 0) X (dk D_Rf_numeral 5 rfl) (by decide) ?_
            refine v_invV (As := [.int (nI 0)]) (st := []) X (r_sign l q (k := 0) hSh hEh (by decide)) (dk D_Rf_numeral 6 rfl) G_Rf_340 K_Rf_sign V_Rf_sign rfl rfl (hSh.lt (by decide)) rfl rfl (Nat.le_of_ble_eq_true rfl) (Nat.le_of_ble_eq_true rfl) (Nat.le_of_ble_eq_true rfl) (Nat.le_of_ble_eq_true rfl) (Nat.le_of_ble_eq_true rfl) ?_
            rintro v1 ws ⟨rfl, hws⟩
            rw [hws]
            show Vv _ _ _ _ _ _ _ _ _ _ _ _ _ _ _ [.int (sgn (u.drop (p + j)) 0)] (0, 0, h)
            refine v_invS (As := [.int (sgn (u.drop (p + j)) 0)]) (st := []) X (r_isDigit l q (b := sgn (u.drop (p + j)) 0) (g := h)) (dk D_Rf_numeral 7 rfl) G_Rf_136 K_Rf_isDigit S_Rf_isDigit rfl rfl (Nat.le_of_ble_eq_true rfl) (Nat.le_of_ble_eq_true rfl) (Nat.le_of_ble_eq_true rfl) (Nat.le_of_ble_eq_true rfl) (Nat.le_of_ble_eq_true rfl) ?_
            rintro v1 ws ⟨rfl, hws⟩
            rw [hws, if_pos hdg]
            show Vv _ _ _ _ _ _ _ _ _ _ _ _ _ _ _ [.int 1] (0, 0, h)
            refine v_if_eq (tgt := 55) X (dk D_Rf_numeral 8 rfl) (by decide) (fun c12 => absurd c12 (by decide)) (fun _ => ?_)
            refine v_iload_n X (dk D_Rf_numeral 9 rfl) rfl ?_
            refine v_bipush (v := 9) X (dk D_Rf_numeral 10 rfl) (by decide) ?_
            refine v_icmp_ge (tgt := 37) X (dk D_Rf_numeral 11 rfl) (by decide) (fun _ => ?_) (fun c18 => absurd (nI_le (a := 9) (by omega) (by omega)) c18)
            refine v_iload_n X (dk D_Rf_numeral 22 rfl) rfl ?_
            refine v_istore_n (lb := [some (.ref 1003), some (.int v), some (.int (nI j))]) X (dk D_Rf_numeral 23 rfl) (by decide) rfl ?_
            refine v_iinc (v := nI (j + 1)) (lb := [some (.ref 1003), some (.int v), some (.int (nI (j + 1)))]) X (dk D_Rf_numeral 24 rfl) rfl (nI_1 _) (by decide) rfl ?_
            refine v_aload_n X (dk D_Rf_numeral 25 rfl) rfl ?_
            refine v_dup X (dk D_Rf_numeral 26 rfl) rfl ?_
            refine v_getI X (dk D_Rf_numeral 27 rfl) F_Rf_334 rfl rfl (hSh.lt (by decide)) ?_
            rw [hEh.1]
            refine v_iconst (v := 1) X (dk D_Rf_numeral 28 rfl) (by decide) ?_
            refine v_iadd X (dk D_Rf_numeral 29 rfl) ?_
            rw [nI_1, Nat.add_assoc st (p + j) 1]
            refine v_putI X (dk D_Rf_numeral 30 rfl) F_Rf_334 CK_Rf rfl rfl (hSh.lt (by decide)) rfl rfl ?_
            refine v_goto (tgt := 4) X (dk D_Rf_numeral 31 rfl) (by decide) ?_
            exact ih (j + 1) _ _ (by omega) (hs.fI (by decide)) (by rw [← Nat.add_assoc]; exact hEh.to (p + j + 1) (by omega)) (by omega) (Or.inr ⟨by omega, by rw [hl, show 10 - j = 0 + 1 by omega, (dgs_go hdg).2, dgs]; show j + 1 = 10; omega⟩)
        · skip
          refine v_aload_n X (dk D_Rf_numeral 4 rfl) rfl ?_
          refine v_iconst (v := nI 0) X (dk D_Rf_numeral 5 rfl) (by decide) ?_
          refine v_invV (As := [.int (nI 0)]) (st := []) X (r_sign l q (k := 0) hSh hEh (by decide)) (dk D_Rf_numeral 6 rfl) G_Rf_340 K_Rf_sign V_Rf_sign rfl rfl (hSh.lt (by decide)) rfl rfl (Nat.le_of_ble_eq_true rfl) (Nat.le_of_ble_eq_true rfl) (Nat.le_of_ble_eq_true rfl) (Nat.le_of_ble_eq_true rfl) (Nat.le_of_ble_eq_true rfl) ?_
          rintro v1 ws ⟨rfl, hws⟩
          rw [hws]
          show Vv _ _ _ _ _ _ _ _ _ _ _ _ _ _ _ [.int (sgn (u.drop (p + j)) 0)] (0, 0, h)
          refine v_invS (As := [.int (sgn (u.drop (p + j)) 0)]) (st := []) X (r_isDigit l q (b := sgn (u.drop (p + j)) 0) (g := h)) (dk D_Rf_numeral 7 rfl) G_Rf_136 K_Rf_isDigit S_Rf_isDigit rfl rfl (Nat.le_of_ble_eq_true rfl) (Nat.le_of_ble_eq_true rfl) (Nat.le_of_ble_eq_true rfl) (Nat.le_of_ble_eq_true rfl) (Nat.le_of_ble_eq_true rfl) ?_
          rintro v1 ws ⟨rfl, hws⟩
          rw [hws, if_pos hdg]
          show Vv _ _ _ _ _ _ _ _ _ _ _ _ _ _ _ [.int 1] (0, 0, h)
          refine v_if_eq (tgt := 55) X (dk D_Rf_numeral 8 rfl) (by decide) (fun c12 => absurd c12 (by decide)) (fun _ => ?_)
          refine v_iload_n X (dk D_Rf_numeral 9 rfl) rfl ?_
          refine v_bipush (v := 9) X (dk D_Rf_numeral 10 rfl) (by decide) ?_
          refine v_icmp_ge (tgt := 37) X (dk D_Rf_numeral 11 rfl) (by decide) (fun _ => ?_) (fun c18 => absurd (nI_le (a := 9) (by omega) (by omega)) c18)
          refine v_iload_n X (dk D_Rf_numeral 22 rfl) rfl ?_
          refine v_istore_n (lb := [some (.ref 1003), some (.int v), some (.int (nI j))]) X (dk D_Rf_numeral 23 rfl) (by decide) rfl ?_
          refine v_iinc (v := nI (j + 1)) (lb := [some (.ref 1003), some (.int v), some (.int (nI (j + 1)))]) X (dk D_Rf_numeral 24 rfl) rfl (nI_1 _) (by decide) rfl ?_
          refine v_aload_n X (dk D_Rf_numeral 25 rfl) rfl ?_
          refine v_dup X (dk D_Rf_numeral 26 rfl) rfl ?_
          refine v_getI X (dk D_Rf_numeral 27 rfl) F_Rf_334 rfl rfl (hSh.lt (by decide)) ?_
          rw [hEh.1]
          refine v_iconst (v := 1) X (dk D_Rf_numeral 28 rfl) (by decide) ?_
          refine v_iadd X (dk D_Rf_numeral 29 rfl) ?_
          rw [nI_1, Nat.add_assoc st (p + j) 1]
          refine v_putI X (dk D_Rf_numeral 30 rfl) F_Rf_334 CK_Rf rfl rfl (hSh.lt (by decide)) rfl rfl ?_
          refine v_goto (tgt := 4) X (dk D_Rf_numeral 31 rfl) (by decide) ?_
          exact ih (j + 1) _ _ (by omega) (hs.fI (by decide)) (by rw [← Nat.add_assoc]; exact hEh.to (p + j + 1) (by omega)) (by omega) (Or.inr ⟨by omega, hl⟩)
      · have hj1 : p < p + j := by
          by_cases e : j = 0
          · rw [e, Nat.add_zero] at hdg; exact absurd hd hdg
          · omega
        rcases hiv with ⟨h9, hl⟩ | ⟨h9, hl⟩
        · skip
          refine v_aload_n X (dk D_Rf_numeral 4 rfl) rfl ?_
          refine v_iconst (v := nI 0) X (dk D_Rf_numeral 5 rfl) (by decide) ?_
          refine v_invV (As := [.int (nI 0)]) (st := []) X (r_sign l q (k := 0) hSh hEh (by decide)) (dk D_Rf_numeral 6 rfl) G_Rf_340 K_Rf_sign V_Rf_sign rfl rfl (hSh.lt (by decide)) rfl rfl (Nat.le_of_ble_eq_true rfl) (Nat.le_of_ble_eq_true rfl) (Nat.le_of_ble_eq_true rfl) (Nat.le_of_ble_eq_true rfl) (Nat.le_of_ble_eq_true rfl) ?_
          rintro v1 ws ⟨rfl, hws⟩
          rw [hws]
          show Vv _ _ _ _ _ _ _ _ _ _ _ _ _ _ _ [.int (sgn (u.drop (p + j)) 0)] (0, 0, h)
          refine v_invS (As := [.int (sgn (u.drop (p + j)) 0)]) (st := []) X (r_isDigit l q (b := sgn (u.drop (p + j)) 0) (g := h)) (dk D_Rf_numeral 7 rfl) G_Rf_136 K_Rf_isDigit S_Rf_isDigit rfl rfl (Nat.le_of_ble_eq_true rfl) (Nat.le_of_ble_eq_true rfl) (Nat.le_of_ble_eq_true rfl) (Nat.le_of_ble_eq_true rfl) (Nat.le_of_ble_eq_true rfl) ?_
          rintro v1 ws ⟨rfl, hws⟩
          rw [hws, if_neg hdg]
          show Vv _ _ _ _ _ _ _ _ _ _ _ _ _ _ _ [.int 0] (0, 0, h)
          refine v_if_eq (tgt := 55) X (dk D_Rf_numeral 8 rfl) (by decide) (fun _ => ?_) (fun c12 => absurd rfl c12)
          refine v_aload_n X (dk D_Rf_numeral 32 rfl) rfl ?_
          refine v_aload_n X (dk D_Rf_numeral 33 rfl) rfl ?_
          refine v_getI X (dk D_Rf_numeral 34 rfl) F_Rf_343 rfl rfl (hSh.lt (by decide)) ?_
          refine v_if_ne (tgt := 69) X (dk D_Rf_numeral 35 rfl) (by decide) (fun c60 => absurd ((hs.2 41 (by decide)).trans hw0) c60) (fun _ => ?_)
          refine v_iload_n X (dk D_Rf_numeral 36 rfl) rfl ?_
          refine v_bipush (v := 9) X (dk D_Rf_numeral 37 rfl) (by decide) ?_
          refine v_icmp_le (tgt := 73) X (dk D_Rf_numeral 38 rfl) (by decide) (fun _ => ?_) (fun c66 => absurd (nI_le (b := 9) (by omega) (by decide)) c66)
          refine v_iconst (v := 0) X (dk D_Rf_numeral 41 rfl) (by decide) ?_
          refine v_putI X (dk D_Rf_numeral 42 rfl) F_Rf_343 CK_Rf rfl rfl (hSh.lt (by decide)) rfl rfl ?_
          refine v_iload_n X (dk D_Rf_numeral 43 rfl) rfl ?_
          exact v_iret X hlk hrt (dk D_Rf_numeral 44 rfl) ⟨v, p + j, false, rfl, (hs.mono (by simp) (by simp)).fI (by decide), hEh.rs (show rs h _ [41] [] from (rs.rf h _ _).fI (by decide)) (by decide) (by decide) (by decide), gI_eq _ _ _ _, hj1, hpl, fun z => (by cases z), fun _ => by rw [hl, show 10 - j = (9 - j) + 1 by omega, dgs_no hdg]; exact ⟨by show ¬ 9 < j; omega, rfl, rfl⟩⟩
        · skip
          refine v_aload_n X (dk D_Rf_numeral 4 rfl) rfl ?_
          refine v_iconst (v := nI 0) X (dk D_Rf_numeral 5 rfl) (by decide) ?_
          refine v_invV (As := [.int (nI 0)]) (st := []) X (r_sign l q (k := 0) hSh hEh (by decide)) (dk D_Rf_numeral 6 rfl) G_Rf_340 K_Rf_sign V_Rf_sign rfl rfl (hSh.lt (by decide)) rfl rfl (Nat.le_of_ble_eq_true rfl) (Nat.le_of_ble_eq_true rfl) (Nat.le_of_ble_eq_true rfl) (Nat.le_of_ble_eq_true rfl) (Nat.le_of_ble_eq_true rfl) ?_
          rintro v1 ws ⟨rfl, hws⟩
          rw [hws]
          show Vv _ _ _ _ _ _ _ _ _ _ _ _ _ _ _ [.int (sgn (u.drop (p + j)) 0)] (0, 0, h)
          refine v_invS (As := [.int (sgn (u.drop (p + j)) 0)]) (st := []) X (r_isDigit l q (b := sgn (u.drop (p + j)) 0) (g := h)) (dk D_Rf_numeral 7 rfl) G_Rf_136 K_Rf_isDigit S_Rf_isDigit rfl rfl (Nat.le_of_ble_eq_true rfl) (Nat.le_of_ble_eq_true rfl) (Nat.le_of_ble_eq_true rfl) (Nat.le_of_ble_eq_true rfl) (Nat.le_of_ble_eq_true rfl) ?_
          rintro v1 ws ⟨rfl, hws⟩
          rw [hws, if_neg hdg]
          show Vv _ _ _ _ _ _ _ _ _ _ _ _ _ _ _ [.int 0] (0, 0, h)
          refine v_if_eq (tgt := 55) X (dk D_Rf_numeral 8 rfl) (by decide) (fun _ => ?_) (fun c12 => absurd rfl c12)
          refine v_aload_n X (dk D_Rf_numeral 32 rfl) rfl ?_
          refine v_aload_n X (dk D_Rf_numeral 33 rfl) rfl ?_
          refine v_getI X (dk D_Rf_numeral 34 rfl) F_Rf_343 rfl rfl (hSh.lt (by decide)) ?_
          refine v_if_ne (tgt := 69) X (dk D_Rf_numeral 35 rfl) (by decide) (fun c60 => absurd ((hs.2 41 (by decide)).trans hw0) c60) (fun _ => ?_)
          refine v_iload_n X (dk D_Rf_numeral 36 rfl) rfl ?_
          refine v_bipush (v := 9) X (dk D_Rf_numeral 37 rfl) (by decide) ?_
          refine v_icmp_le (tgt := 73) X (dk D_Rf_numeral 38 rfl) (by decide) (fun c66 => absurd c66 (fun z => absurd ((nI_leI (b := 9) (by omega) (by decide)).mp z) (by omega))) (fun _ => ?_)
          refine v_iconst (v := 1) X (dk D_Rf_numeral 39 rfl) (by decide) ?_
          refine v_goto (tgt := 74) X (dk D_Rf_numeral 40 rfl) (by decide) ?_
          refine v_putI X (dk D_Rf_numeral 42 rfl) F_Rf_343 CK_Rf rfl rfl (hSh.lt (by decide)) rfl rfl ?_
          refine v_iload_n X (dk D_Rf_numeral 43 rfl) rfl ?_
          exact v_iret X hlk hrt (dk D_Rf_numeral 44 rfl) ⟨v, p + j, true, rfl, (hs.mono (by simp) (by simp)).fI (by decide), hEh.rs (show rs h _ [41] [] from (rs.rf h _ _).fI (by decide)) (by decide) (by decide) (by decide), gI_eq _ _ _ _, hj1, hpl, fun _ => by rw [hl]; decide, fun z => by cases z⟩
  refine v_iconst (v := 0) X (dk D_Rf_numeral 0 rfl) (by decide) ?_
  refine v_istore_n (lb := [some (.ref 1003), some (.int 0), none]) X (dk D_Rf_numeral 1 rfl) (by decide) rfl ?_
  refine v_iconst (v := nI 0) X (dk D_Rf_numeral 2 rfl) (by decide) ?_
  refine v_istore_n (lb := [some (.ref 1003), some (.int 0), some (.int (nI 0))]) X (dk D_Rf_numeral 3 rfl) (by decide) rfl ?_
  exact loop (u.length + 1) 0 0 g (by omega) (rs.rf g _ _) hE hpu (Or.inl ⟨by omega, rfl⟩)
