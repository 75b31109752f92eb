/-! the reference: what arguments are -/
theorem dig_b {b : Int32} (hb : isByte b) (h : isDig (b &&& 255) = true) : b &&& 255 = b := by
  obtain ⟨j, hj, e⟩ := dig_nI h
  have h1 := and255_b b
  have h2 : ∀ j, j < 10 → (nI j + 48).toInt8.toInt32 = nI j + 48 := by decide +kernel
  have h3 : b &&& 255 = nI j + 48 := by rw [← e, Int32.sub_add_cancel]
  rw [h3, h2 j hj] at h1
  rw [h3, h1]
  exact hb
set_option maxHeartbeats 4000000 in
set_option maxRecDepth 100000 in
theorem r_isNameArgument (l : Launch) (q : ev_T) {f : Fr} {r : List Fr} {g : mu_T} (hS : Shp g) (hC : AC g f r) : Ctr l q M_Rf_isNameArgument 1 [.ref 1003, .int (nI (na r))] (0, 0, g) (fun v w => v = some (.int (if isNm (f.2.1.getD 0 []) = true then 1 else 0)) ∧ w.2.2 = g) := by
  have hle := ag_le (f := f) (r := r) 0
  have h16 := hC.1.1.2.2
  have hrow := hC.1.1.arg 0
  refine Ctr.mk (lb := [some (.ref 1003), some (.int (nI (na r))), none, none, none, none]) (by decide +kernel) (Nat.le_of_ble_eq_true rfl) rfl rfl ?_
  intro pp ee ss mm aa bb mt cd X hrt hlk hnm
  have bad : ¬ isNm (f.2.1.getD 0 []) = true → ∀ k, k ≤ (f.2.1.getD 0 []).length + 1 → Vv pp l ee (rmT 1 0 0) ss mm aa bb mt cd 6 q (MQ bb (Qw q (fun v w => v = some (.int (if isNm (f.2.1.getD 0 []) = true then 1 else 0)) ∧ w.2.2 = g)) aa ss 0 0 (fun a => q.1 ≤ a)) 44 [some (.ref 1003), some (.int (nI (na r))), some (.int (nI (f.2.1.getD 0 []).length)), some (.int (nI (stA f r 0))), some (.int 0), some (.int (nI k))] [] (0, 0, g) := by
    intro hno k hk
    by_cases c : (f.2.1.getD 0 []).length ≤ k
    · refine v_iload X (dk D_Rf_isNameArgument 26 rfl) rfl ?_
      refine v_iload_n X (dk D_Rf_isNameArgument 27 rfl) rfl ?_
      refine v_icmp_ge (tgt := 106) X (dk D_Rf_isNameArgument 28 rfl) (by decide) (fun _ => ?_) (fun c47 => absurd (nI_le (by omega) (by omega)) c47)
      refine v_iload X (dk D_Rf_isNameArgument 57 rfl) rfl ?_
      exact v_zret X hlk hrt rfl (dk D_Rf_isNameArgument 58 rfl) ⟨by rw [if_neg hno], rfl⟩
    · refine v_iload X (dk D_Rf_isNameArgument 26 rfl) rfl ?_
      refine v_iload_n X (dk D_Rf_isNameArgument 27 rfl) rfl ?_
      refine v_icmp_ge (tgt := 106) X (dk D_Rf_isNameArgument 28 rfl) (by decide) (fun c47 => absurd c47 (nI_ge (by omega) (by omega))) (fun _ => ?_)
      refine v_iload X (dk D_Rf_isNameArgument 29 rfl) rfl ?_
      refine v_if_eq (tgt := 106) X (dk D_Rf_isNameArgument 30 rfl) (by decide) (fun _ => ?_) (fun c52 => absurd rfl c52)
      refine v_iload X (dk D_Rf_isNameArgument 57 rfl) rfl ?_
      exact v_zret X hlk hrt rfl (dk D_Rf_isNameArgument 58 rfl) ⟨by rw [if_neg hno], rfl⟩
  have loop : 0 < (f.2.1.getD 0 []).length → isLet ((f.2.1.getD 0 []).getD 0 0 &&& 255) = true → ∀ (d k : Nat), k + d = (f.2.1.getD 0 []).length → 0 < k → (∀ j, j < k → 0 < j → isNam ((f.2.1.getD 0 []).getD j 0 &&& 255) = true) → Vv pp l ee (rmT 1 0 0) ss mm aa bb mt cd 6 q (MQ bb (Qw q (fun v w => v = some (.int (if isNm (f.2.1.getD 0 []) = true then 1 else 0)) ∧ w.2.2 = g)) aa ss 0 0 (fun a => q.1 ≤ a)) 44 [some (.ref 1003), some (.int (nI (na r))), some (.int (nI (f.2.1.getD 0 []).length)), some (.int (nI (stA f r 0))), some (.int 1), some (.int (nI k))] [] (0, 0, g) := by
    intro hl0 h0 d
    induction d with
    | zero =>
      intro k hkd hk0 hm
      refine v_iload X (dk D_Rf_isNameArgument 26 rfl) rfl ?_
      refine v_iload_n X (dk D_Rf_isNameArgument 27 rfl) rfl ?_
      refine v_icmp_ge (tgt := 106) X (dk D_Rf_isNameArgument 28 rfl) (by decide) (fun _ => ?_) (fun c47 => absurd (nI_le (by omega) (by omega)) c47)
      refine v_iload X (dk D_Rf_isNameArgument 57 rfl) rfl ?_
      exact v_zret X hlk hrt rfl (dk D_Rf_isNameArgument 58 rfl) ⟨by rw [if_pos (show isNm _ = true from decide_eq_true ⟨by omega, h0, fun j hj h1 => hm j (by omega) h1⟩)], rfl⟩
    | succ d ih =>
      intro k hkd hk0 hm
      refine v_iload X (dk D_Rf_isNameArgument 26 rfl) rfl ?_
      refine v_iload_n X (dk D_Rf_isNameArgument 27 rfl) rfl ?_
      refine v_icmp_ge (tgt := 106) X (dk D_Rf_isNameArgument 28 rfl) (by decide) (fun c47 => absurd c47 (nI_ge (by omega) (by omega))) (fun _ => ?_)
      refine v_iload X (dk D_Rf_isNameArgument 29 rfl) rfl ?_
      refine v_if_eq (tgt := 106) X (dk D_Rf_isNameArgument 30 rfl) (by decide) (fun c52 => absurd c52 (by decide)) (fun _ => ?_)
      refine v_aload_n X (dk D_Rf_isNameArgument 31 rfl) rfl ?_
      refine v_getF X (dk D_Rf_isNameArgument 32 rfl) F_Rf_56 rfl rfl (hS.lt (by decide)) (hS.2 1003 35) ?_
      refine v_iload_n X (dk D_Rf_isNameArgument 33 rfl) rfl ?_
      refine v_iload X (dk D_Rf_isNameArgument 34 rfl) rfl ?_
      refine v_iadd X (dk D_Rf_isNameArgument 35 rfl) ?_
      rw [nI_add]
      refine v_bald X (dk D_Rf_isNameArgument 36 rfl) rfl (hS.lt (by decide)) (vp_in_nI (show stA f r 0 + k < 16385 by omega) (by decide)) ?_
      rw [nI_clamp (by omega), hrow k (by omega)]
      refine v_sipush (v := 255) X (dk D_Rf_isNameArgument 37 rfl) (by decide) ?_
      refine v_iand X (dk D_Rf_isNameArgument 38 rfl) ?_
      refine v_invS (As := [.int ((f.2.1.getD 0 []).getD k 0 &&& 255)]) (st := []) X (r_isLetter l q (b := ((f.2.1.getD 0 []).getD k 0 &&& 255)) (g := g)) (dk D_Rf_isNameArgument 39 rfl) G_Rf_132 K_Rf_isLetter S_Rf_isLetter rfl rfl (Nat.le_of_ble_eq_true rfl) (Nat.le_of_ble_eq_true rfl) (Nat.le_of_ble_eq_true rfl) (Nat.le_of_ble_eq_true rfl) (Nat.le_of_ble_eq_true rfl) ?_
      rintro v ws ⟨rfl, hws⟩
      rw [hws]
      show Vv _ _ _ _ _ _ _ _ _ _ _ _ _ _ _ [.int (if isLet ((f.2.1.getD 0 []).getD k 0 &&& 255) = true then 1 else 0)] (0, 0, g)
      refine v_if_ne (tgt := 93) X (dk D_Rf_isNameArgument 40 rfl) (by decide) (fun c71 => ?_) (fun c71 => ?_)
      · refine v_iconst (v := 1) X (dk D_Rf_isNameArgument 51 rfl) (by decide) ?_
        refine v_goto (tgt := 98) X (dk D_Rf_isNameArgument 52 rfl) (by decide) ?_
        refine v_istore (lb := [some (.ref 1003), some (.int (nI (na r))), some (.int (nI (f.2.1.getD 0 []).length)), some (.int (nI (stA f r 0))), some (.int 1), some (.int (nI k))]) X (dk D_Rf_isNameArgument 54 rfl) (by decide) rfl ?_
        refine v_iinc (v := nI (k + 1)) (lb := [some (.ref 1003), some (.int (nI (na r))), some (.int (nI (f.2.1.getD 0 []).length)), some (.int (nI (stA f r 0))), some (.int 1), some (.int (nI (k + 1)))]) X (dk D_Rf_isNameArgument 55 rfl) rfl (nI_1 k) (by decide) rfl ?_
        refine v_goto (tgt := 44) X (dk D_Rf_isNameArgument 56 rfl) (by decide) ?_
        have hk9 : isNam ((f.2.1.getD 0 []).getD k 0 &&& 255) = true := by rw [isNam, Bool.or_eq_true]; exact Or.inl (Decidable.byContradiction (fun z => c71 (by rw [if_neg z])))
        exact ih (k + 1) (by omega) (by omega) (fun j hj h1 => by by_cases e : j = k; (rw [e]; exact hk9); exact hm j (by omega) h1)
      · refine v_aload_n X (dk D_Rf_isNameArgument 41 rfl) rfl ?_
        refine v_getF X (dk D_Rf_isNameArgument 42 rfl) F_Rf_56 rfl rfl (hS.lt (by decide)) (hS.2 1003 35) ?_
        refine v_iload_n X (dk D_Rf_isNameArgument 43 rfl) rfl ?_
        refine v_iload X (dk D_Rf_isNameArgument 44 rfl) rfl ?_
        refine v_iadd X (dk D_Rf_isNameArgument 45 rfl) ?_
        rw [nI_add]
        refine v_bald X (dk D_Rf_isNameArgument 46 rfl) rfl (hS.lt (by decide)) (vp_in_nI (show stA f r 0 + k < 16385 by omega) (by decide)) ?_
        rw [nI_clamp (by omega), hrow k (by omega)]
        refine v_sipush (v := 255) X (dk D_Rf_isNameArgument 47 rfl) (by decide) ?_
        refine v_iand X (dk D_Rf_isNameArgument 48 rfl) ?_
        refine v_invS (As := [.int ((f.2.1.getD 0 []).getD k 0 &&& 255)]) (st := []) X (r_isDigit l q (b := ((f.2.1.getD 0 []).getD k 0 &&& 255)) (g := g)) (dk D_Rf_isNameArgument 49 rfl) G_Rf_136 K_Rf_isDigit S_Rf_isDigit rfl rfl (Nat.le_of_ble_eq_true rfl) (Nat.le_of_ble_eq_true rfl) (Nat.le_of_ble_eq_true rfl) (Nat.le_of_ble_eq_true rfl) (Nat.le_of_ble_eq_true rfl) ?_
        rintro v ws ⟨rfl, hws⟩
        rw [hws]
        show Vv _ _ _ _ _ _ _ _ _ _ _ _ _ _ _ [.int (if isDig ((f.2.1.getD 0 []).getD k 0 &&& 255) = true then 1 else 0)] (0, 0, g)
        refine v_if_eq (tgt := 97) X (dk D_Rf_isNameArgument 50 rfl) (by decide) (fun c90 => ?_) (fun c90 => ?_)
        · refine v_iconst (v := 0) X (dk D_Rf_isNameArgument 53 rfl) (by decide) ?_
          refine v_istore (lb := [some (.ref 1003), some (.int (nI (na r))), some (.int (nI (f.2.1.getD 0 []).length)), some (.int (nI (stA f r 0))), some (.int 0), some (.int (nI k))]) X (dk D_Rf_isNameArgument 54 rfl) (by decide) rfl ?_
          refine v_iinc (v := nI (k + 1)) (lb := [some (.ref 1003), some (.int (nI (na r))), some (.int (nI (f.2.1.getD 0 []).length)), some (.int (nI (stA f r 0))), some (.int 0), some (.int (nI (k + 1)))]) X (dk D_Rf_isNameArgument 55 rfl) rfl (nI_1 k) (by decide) rfl ?_
          refine v_goto (tgt := 44) X (dk D_Rf_isNameArgument 56 rfl) (by decide) ?_
          exact bad (fun z => by have h9 := (of_decide_eq_true z).2.2 k (by omega) (by omega); rw [isNam, Bool.or_eq_true] at h9; rcases h9 with h9 | h9; (rw [if_pos h9] at c71; exact absurd c71 (by decide)); (rw [if_pos h9] at c90; exact absurd c90 (by decide))) (k + 1) (by omega)
        · refine v_iconst (v := 1) X (dk D_Rf_isNameArgument 51 rfl) (by decide) ?_
          refine v_goto (tgt := 98) X (dk D_Rf_isNameArgument 52 rfl) (by decide) ?_
          refine v_istore (lb := [some (.ref 1003), some (.int (nI (na r))), some (.int (nI (f.2.1.getD 0 []).length)), some (.int (nI (stA f r 0))), some (.int 1), some (.int (nI k))]) X (dk D_Rf_isNameArgument 54 rfl) (by decide) rfl ?_
          refine v_iinc (v := nI (k + 1)) (lb := [some (.ref 1003), some (.int (nI (na r))), some (.int (nI (f.2.1.getD 0 []).length)), some (.int (nI (stA f r 0))), some (.int 1), some (.int (nI (k + 1)))]) X (dk D_Rf_isNameArgument 55 rfl) rfl (nI_1 k) (by decide) rfl ?_
          refine v_goto (tgt := 44) X (dk D_Rf_isNameArgument 56 rfl) (by decide) ?_
          have hk9 : isNam ((f.2.1.getD 0 []).getD k 0 &&& 255) = true := by rw [isNam, Bool.or_eq_true]; exact Or.inr (Decidable.byContradiction (fun z => c90 (by rw [if_neg z])))
          exact ih (k + 1) (by omega) (by omega) (fun j hj h1 => by by_cases e : j = k; (rw [e]; exact hk9); exact hm j (by omega) h1)
  by_cases c0 : (f.2.1.getD 0 []).length = 0
  · refine v_aload_n X (dk D_Rf_isNameArgument 0 rfl) rfl ?_
    refine v_iload_n X (dk D_Rf_isNameArgument 1 rfl) rfl ?_
    refine v_iconst (v := nI (0 + 1)) X (dk D_Rf_isNameArgument 2 rfl) (by decide) ?_
    refine v_invV (As := [.int (nI (na r)), .int (nI (0 + 1))]) (st := []) X (r_argumentSize l q (i := 0) hS hC (by omega)) (dk D_Rf_isNameArgument 3 rfl) G_Rf_272 K_Rf_argumentSize V_Rf_argumentSize rfl rfl (hS.lt (by decide)) rfl rfl (Nat.le_of_ble_eq_true rfl) (Nat.le_of_ble_eq_true rfl) (Nat.le_of_ble_eq_true rfl) (Nat.le_of_ble_eq_true rfl) (Nat.le_of_ble_eq_true rfl) ?_
    rintro v ws ⟨rfl, hws⟩
    rw [hws]
    show Vv _ _ _ _ _ _ _ _ _ _ _ _ _ _ _ [.int (nI (f.2.1.getD 0 []).length)] (0, 0, g)
    refine v_istore_n (lb := [some (.ref 1003), some (.int (nI (na r))), some (.int (nI (f.2.1.getD 0 []).length)), none, none, none]) X (dk D_Rf_isNameArgument 4 rfl) (by decide) rfl ?_
    refine v_aload_n X (dk D_Rf_isNameArgument 5 rfl) rfl ?_
    refine v_iload_n X (dk D_Rf_isNameArgument 6 rfl) rfl ?_
    refine v_iconst (v := nI (0 + 1)) X (dk D_Rf_isNameArgument 7 rfl) (by decide) ?_
    refine v_invV (As := [.int (nI (na r)), .int (nI (0 + 1))]) (st := []) X (r_argumentAt l q (i := 0) hS hC (by omega)) (dk D_Rf_isNameArgument 8 rfl) G_Rf_268 K_Rf_argumentAt V_Rf_argumentAt rfl rfl (hS.lt (by decide)) rfl rfl (Nat.le_of_ble_eq_true rfl) (Nat.le_of_ble_eq_true rfl) (Nat.le_of_ble_eq_true rfl) (Nat.le_of_ble_eq_true rfl) (Nat.le_of_ble_eq_true rfl) ?_
    rintro v ws ⟨rfl, hws⟩
    rw [hws]
    show Vv _ _ _ _ _ _ _ _ _ _ _ _ _ _ _ [.int (nI (stA f r 0))] (0, 0, g)
    refine v_istore_n (lb := [some (.ref 1003), some (.int (nI (na r))), some (.int (nI (f.2.1.getD 0 []).length)), some (.int (nI (stA f r 0))), none, none]) X (dk D_Rf_isNameArgument 9 rfl) (by decide) rfl ?_
    refine v_iload_n X (dk D_Rf_isNameArgument 10 rfl) rfl ?_
    refine v_if_le (tgt := 38) X (dk D_Rf_isNameArgument 11 rfl) (by decide) (fun _ => ?_) (fun c15 => absurd (by rw [show (f.2.1.getD 0 []).length = 0 by omega]; decide) c15)
    refine v_iconst (v := 0) X (dk D_Rf_isNameArgument 22 rfl) (by decide) ?_
    refine v_istore (lb := [some (.ref 1003), some (.int (nI (na r))), some (.int (nI (f.2.1.getD 0 []).length)), some (.int (nI (stA f r 0))), some (.int 0), none]) X (dk D_Rf_isNameArgument 23 rfl) (by decide) rfl ?_
    refine v_iconst (v := nI 1) X (dk D_Rf_isNameArgument 24 rfl) (by decide) ?_
    refine v_istore (lb := [some (.ref 1003), some (.int (nI (na r))), some (.int (nI (f.2.1.getD 0 []).length)), some (.int (nI (stA f r 0))), some (.int 0), some (.int (nI 1))]) X (dk D_Rf_isNameArgument 25 rfl) (by decide) rfl ?_
    exact bad (fun z => absurd (of_decide_eq_true z).1 (by omega)) 1 (by omega)
  by_cases hL : isLet ((f.2.1.getD 0 []).getD 0 0 &&& 255) = true
  · refine v_aload_n X (dk D_Rf_isNameArgument 0 rfl) rfl ?_
    refine v_iload_n X (dk D_Rf_isNameArgument 1 rfl) rfl ?_
    refine v_iconst (v := nI (0 + 1)) X (dk D_Rf_isNameArgument 2 rfl) (by decide) ?_
    refine v_invV (As := [.int (nI (na r)), .int (nI (0 + 1))]) (st := []) X (r_argumentSize l q (i := 0) hS hC (by omega)) (dk D_Rf_isNameArgument 3 rfl) G_Rf_272 K_Rf_argumentSize V_Rf_argumentSize rfl rfl (hS.lt (by decide)) rfl rfl (Nat.le_of_ble_eq_true rfl) (Nat.le_of_ble_eq_true rfl) (Nat.le_of_ble_eq_true rfl) (Nat.le_of_ble_eq_true rfl) (Nat.le_of_ble_eq_true rfl) ?_
    rintro v ws ⟨rfl, hws⟩
    rw [hws]
    show Vv _ _ _ _ _ _ _ _ _ _ _ _ _ _ _ [.int (nI (f.2.1.getD 0 []).length)] (0, 0, g)
    refine v_istore_n (lb := [some (.ref 1003), some (.int (nI (na r))), some (.int (nI (f.2.1.getD 0 []).length)), none, none, none]) X (dk D_Rf_isNameArgument 4 rfl) (by decide) rfl ?_
    refine v_aload_n X (dk D_Rf_isNameArgument 5 rfl) rfl ?_
    refine v_iload_n X (dk D_Rf_isNameArgument 6 rfl) rfl ?_
    refine v_iconst (v := nI (0 + 1)) X (dk D_Rf_isNameArgument 7 rfl) (by decide) ?_
    refine v_invV (As := [.int (nI (na r)), .int (nI (0 + 1))]) (st := []) X (r_argumentAt l q (i := 0) hS hC (by omega)) (dk D_Rf_isNameArgument 8 rfl) G_Rf_268 K_Rf_argumentAt V_Rf_argumentAt rfl rfl (hS.lt (by decide)) rfl rfl (Nat.le_of_ble_eq_true rfl) (Nat.le_of_ble_eq_true rfl) (Nat.le_of_ble_eq_true rfl) (Nat.le_of_ble_eq_true rfl) (Nat.le_of_ble_eq_true rfl) ?_
    rintro v ws ⟨rfl, hws⟩
    rw [hws]
    show Vv _ _ _ _ _ _ _ _ _ _ _ _ _ _ _ [.int (nI (stA f r 0))] (0, 0, g)
    refine v_istore_n (lb := [some (.ref 1003), some (.int (nI (na r))), some (.int (nI (f.2.1.getD 0 []).length)), some (.int (nI (stA f r 0))), none, none]) X (dk D_Rf_isNameArgument 9 rfl) (by decide) rfl ?_
    refine v_iload_n X (dk D_Rf_isNameArgument 10 rfl) rfl ?_
    refine v_if_le (tgt := 38) X (dk D_Rf_isNameArgument 11 rfl) (by decide) (fun c15 => absurd c15 (nI_nle (by omega) (by omega))) (fun _ => ?_)
    refine v_aload_n X (dk D_Rf_isNameArgument 12 rfl) rfl ?_
    refine v_getF X (dk D_Rf_isNameArgument 13 rfl) F_Rf_56 rfl rfl (hS.lt (by decide)) (hS.2 1003 35) ?_
    refine v_iload_n X (dk D_Rf_isNameArgument 14 rfl) rfl ?_
    refine v_bald X (dk D_Rf_isNameArgument 15 rfl) rfl (hS.lt (by decide)) (vp_in_nI (show stA f r 0 < 16385 by omega) (by decide)) ?_
    rw [nI_clamp (by omega), show gI g 1018 (stA f r 0) = (f.2.1.getD 0 []).getD 0 0 from hrow 0 (by omega)]
    refine v_sipush (v := 255) X (dk D_Rf_isNameArgument 16 rfl) (by decide) ?_
    refine v_iand X (dk D_Rf_isNameArgument 17 rfl) ?_
    refine v_invS (As := [.int ((f.2.1.getD 0 []).getD 0 0 &&& 255)]) (st := []) X (r_isLetter l q (b := ((f.2.1.getD 0 []).getD 0 0 &&& 255)) (g := g)) (dk D_Rf_isNameArgument 18 rfl) G_Rf_132 K_Rf_isLetter S_Rf_isLetter rfl rfl (Nat.le_of_ble_eq_true rfl) (Nat.le_of_ble_eq_true rfl) (Nat.le_of_ble_eq_true rfl) (Nat.le_of_ble_eq_true rfl) (Nat.le_of_ble_eq_true rfl) ?_
    rintro v ws ⟨rfl, hws⟩
    rw [hws]
    show Vv _ _ _ _ _ _ _ _ _ _ _ _ _ _ _ [.int (if isLet ((f.2.1.getD 0 []).getD 0 0 &&& 255) = true then 1 else 0)] (0, 0, g)
    refine v_if_eq (tgt := 38) X (dk D_Rf_isNameArgument 19 rfl) (by decide) (fun c31 => absurd c31 (by rw [if_pos hL]; decide)) (fun _ => ?_)
    refine v_iconst (v := 1) X (dk D_Rf_isNameArgument 20 rfl) (by decide) ?_
    refine v_goto (tgt := 39) X (dk D_Rf_isNameArgument 21 rfl) (by decide) ?_
    refine v_istore (lb := [some (.ref 1003), some (.int (nI (na r))), some (.int (nI (f.2.1.getD 0 []).length)), some (.int (nI (stA f r 0))), some (.int 1), none]) X (dk D_Rf_isNameArgument 23 rfl) (by decide) rfl ?_
    refine v_iconst (v := nI 1) X (dk D_Rf_isNameArgument 24 rfl) (by decide) ?_
    refine v_istore (lb := [some (.ref 1003), some (.int (nI (na r))), some (.int (nI (f.2.1.getD 0 []).length)), some (.int (nI (stA f r 0))), some (.int 1), some (.int (nI 1))]) X (dk D_Rf_isNameArgument 25 rfl) (by decide) rfl ?_
    exact loop (by omega) hL ((f.2.1.getD 0 []).length - 1) 1 (by omega) (by decide) (fun j hj h1 => by omega)
  · refine v_aload_n X (dk D_Rf_isNameArgument 0 rfl) rfl ?_
    refine v_iload_n X (dk D_Rf_isNameArgument 1 rfl) rfl ?_
    refine v_iconst (v := nI (0 + 1)) X (dk D_Rf_isNameArgument 2 rfl) (by decide) ?_
    refine v_invV (As := [.int (nI (na r)), .int (nI (0 + 1))]) (st := []) X (r_argumentSize l q (i := 0) hS hC (by omega)) (dk D_Rf_isNameArgument 3 rfl) G_Rf_272 K_Rf_argumentSize V_Rf_argumentSize rfl rfl (hS.lt (by decide)) rfl rfl (Nat.le_of_ble_eq_true rfl) (Nat.le_of_ble_eq_true rfl) (Nat.le_of_ble_eq_true rfl) (Nat.le_of_ble_eq_true rfl) (Nat.le_of_ble_eq_true rfl) ?_
    rintro v ws ⟨rfl, hws⟩
    rw [hws]
    show Vv _ _ _ _ _ _ _ _ _ _ _ _ _ _ _ [.int (nI (f.2.1.getD 0 []).length)] (0, 0, g)
    refine v_istore_n (lb := [some (.ref 1003), some (.int (nI (na r))), some (.int (nI (f.2.1.getD 0 []).length)), none, none, none]) X (dk D_Rf_isNameArgument 4 rfl) (by decide) rfl ?_
    refine v_aload_n X (dk D_Rf_isNameArgument 5 rfl) rfl ?_
    refine v_iload_n X (dk D_Rf_isNameArgument 6 rfl) rfl ?_
    refine v_iconst (v := nI (0 + 1)) X (dk D_Rf_isNameArgument 7 rfl) (by decide) ?_
    refine v_invV (As := [.int (nI (na r)), .int (nI (0 + 1))]) (st := []) X (r_argumentAt l q (i := 0) hS hC (by omega)) (dk D_Rf_isNameArgument 8 rfl) G_Rf_268 K_Rf_argumentAt V_Rf_argumentAt rfl rfl (hS.lt (by decide)) rfl rfl (Nat.le_of_ble_eq_true rfl) (Nat.le_of_ble_eq_true rfl) (Nat.le_of_ble_eq_true rfl) (Nat.le_of_ble_eq_true rfl) (Nat.le_of_ble_eq_true rfl) ?_
    rintro v ws ⟨rfl, hws⟩
    rw [hws]
    show Vv _ _ _ _ _ _ _ _ _ _ _ _ _ _ _ [.int (nI (stA f r 0))] (0, 0, g)
    refine v_istore_n (lb := [some (.ref 1003), some (.int (nI (na r))), some (.int (nI (f.2.1.getD 0 []).length)), some (.int (nI (stA f r 0))), none, none]) X (dk D_Rf_isNameArgument 9 rfl) (by decide) rfl ?_
    refine v_iload_n X (dk D_Rf_isNameArgument 10 rfl) rfl ?_
    refine v_if_le (tgt := 38) X (dk D_Rf_isNameArgument 11 rfl) (by decide) (fun c15 => absurd c15 (nI_nle (by omega) (by omega))) (fun _ => ?_)
    refine v_aload_n X (dk D_Rf_isNameArgument 12 rfl) rfl ?_
    refine v_getF X (dk D_Rf_isNameArgument 13 rfl) F_Rf_56 rfl rfl (hS.lt (by decide)) (hS.2 1003 35) ?_
    refine v_iload_n X (dk D_Rf_isNameArgument 14 rfl) rfl ?_
    refine v_bald X (dk D_Rf_isNameArgument 15 rfl) rfl (hS.lt (by decide)) (vp_in_nI (show stA f r 0 < 16385 by omega) (by decide)) ?_
    rw [nI_clamp (by omega), show gI g 1018 (stA f r 0) = (f.2.1.getD 0 []).getD 0 0 from hrow 0 (by omega)]
    refine v_sipush (v := 255) X (dk D_Rf_isNameArgument 16 rfl) (by decide) ?_
    refine v_iand X (dk D_Rf_isNameArgument 17 rfl) ?_
    refine v_invS (As := [.int ((f.2.1.getD 0 []).getD 0 0 &&& 255)]) (st := []) X (r_isLetter l q (b := ((f.2.1.getD 0 []).getD 0 0 &&& 255)) (g := g)) (dk D_Rf_isNameArgument 18 rfl) G_Rf_132 K_Rf_isLetter S_Rf_isLetter rfl rfl (Nat.le_of_ble_eq_true rfl) (Nat.le_of_ble_eq_true rfl) (Nat.le_of_ble_eq_true rfl) (Nat.le_of_ble_eq_true rfl) (Nat.le_of_ble_eq_true rfl) ?_
    rintro v ws ⟨rfl, hws⟩
    rw [hws]
    show Vv _ _ _ _ _ _ _ _ _ _ _ _ _ _ _ [.int (if isLet ((f.2.1.getD 0 []).getD 0 0 &&& 255) = true then 1 else 0)] (0, 0, g)
    refine v_if_eq (tgt := 38) X (dk D_Rf_isNameArgument 19 rfl) (by decide) (fun _ => ?_) (fun c31 => absurd (by rw [if_neg hL]) c31)
    refine v_iconst (v := 0) X (dk D_Rf_isNameArgument 22 rfl) (by decide) ?_
    refine v_istore (lb := [some (.ref 1003), some (.int (nI (na r))), some (.int (nI (f.2.1.getD 0 []).length)), some (.int (nI (stA f r 0))), some (.int 0), none]) X (dk D_Rf_isNameArgument 23 rfl) (by decide) rfl ?_
    refine v_iconst (v := nI 1) X (dk D_Rf_isNameArgument 24 rfl) (by decide) ?_
    refine v_istore (lb := [some (.ref 1003), some (.int (nI (na r))), some (.int (nI (f.2.1.getD 0 []).length)), some (.int (nI (stA f r 0))), some (.int 0), some (.int (nI 1))]) X (dk D_Rf_isNameArgument 25 rfl) (by decide) rfl ?_
    exact bad (fun z => hL (of_decide_eq_true z).2.1) 1 (by omega)
set_option maxHeartbeats 4000000 in
set_option maxRecDepth 100000 in
theorem r_same (l : Launch) (q : ev_T) {i j : Nat} {f : Fr} {r : List Fr} {g : mu_T} (hS : Shp g) (hC : AC g f r) (hi : i < 10000) (hj : j < 10000) : Ctr l q M_Rf_same 1 [.ref 1003, .int (nI (na r)), .int (nI (i + 1)), .int (nI (j + 1))] (0, 0, g) (fun v w => v = some (.int (if (f.2.1.getD i []) = (f.2.1.getD j []) then 1 else 0)) ∧ w.2.2 = g) := by
  have hle := ag_le (f := f) (r := r) i
  have h16 := hC.1.1.2.2
  have hrow := hC.1.1.arg i
  have hle2 := ag_le (f := f) (r := r) j
  have hrow2 := hC.1.1.arg j
  refine Ctr.mk (lb := [some (.ref 1003), some (.int (nI (na r))), some (.int (nI (i + 1))), some (.int (nI (j + 1))), none, none]) (by decide +kernel) (Nat.le_of_ble_eq_true rfl) rfl rfl ?_
  intro pp ee ss mm aa bb mt cd X hrt hlk hnm
  have bad : ¬ (f.2.1.getD i []) = (f.2.1.getD j []) → ∀ k, k ≤ (f.2.1.getD i []).length + 1 → Vv pp l ee (rmT 1 0 0) ss mm aa bb mt cd 6 q (MQ bb (Qw q (fun v w => v = some (.int (if (f.2.1.getD i []) = (f.2.1.getD j []) then 1 else 0)) ∧ w.2.2 = g)) aa ss 0 0 (fun a => q.1 ≤ a)) 25 [some (.ref 1003), some (.int (nI (na r))), some (.int (nI (i + 1))), some (.int (nI (j + 1))), some (.int 0), some (.int (nI k))] [] (0, 0, g) := by
    intro hno k hk
    by_cases c : (f.2.1.getD i []).length ≤ k
    · refine v_iload X (dk D_Rf_same 15 rfl) rfl ?_
      refine v_aload_n X (dk D_Rf_same 16 rfl) rfl ?_
      refine v_iload_n X (dk D_Rf_same 17 rfl) rfl ?_
      refine v_iload_n X (dk D_Rf_same 18 rfl) rfl ?_
      refine v_invV (As := [.int (nI (na r)), .int (nI (i + 1))]) (st := [.int (nI k)]) X (r_argumentSize l q (i := i) hS hC (by omega)) (dk D_Rf_same 19 rfl) G_Rf_272 K_Rf_argumentSize V_Rf_argumentSize rfl rfl (hS.lt (by decide)) rfl rfl (Nat.le_of_ble_eq_true rfl) (Nat.le_of_ble_eq_true rfl) (Nat.le_of_ble_eq_true rfl) (Nat.le_of_ble_eq_true rfl) (Nat.le_of_ble_eq_true rfl) ?_
      rintro v ws ⟨rfl, hws⟩
      rw [hws]
      show Vv _ _ _ _ _ _ _ _ _ _ _ _ _ _ _ [.int (nI (f.2.1.getD i []).length), .int (nI k)] (0, 0, g)
      refine v_icmp_ge (tgt := 85) X (dk D_Rf_same 20 rfl) (by decide) (fun _ => ?_) (fun c33 => absurd (nI_le (by omega) (by omega)) c33)
      refine v_iload X (dk D_Rf_same 48 rfl) rfl ?_
      exact v_zret X hlk hrt rfl (dk D_Rf_same 49 rfl) ⟨by rw [if_neg hno], rfl⟩
    · refine v_iload X (dk D_Rf_same 15 rfl) rfl ?_
      refine v_aload_n X (dk D_Rf_same 16 rfl) rfl ?_
      refine v_iload_n X (dk D_Rf_same 17 rfl) rfl ?_
      refine v_iload_n X (dk D_Rf_same 18 rfl) rfl ?_
      refine v_invV (As := [.int (nI (na r)), .int (nI (i + 1))]) (st := [.int (nI k)]) X (r_argumentSize l q (i := i) hS hC (by omega)) (dk D_Rf_same 19 rfl) G_Rf_272 K_Rf_argumentSize V_Rf_argumentSize rfl rfl (hS.lt (by decide)) rfl rfl (Nat.le_of_ble_eq_true rfl) (Nat.le_of_ble_eq_true rfl) (Nat.le_of_ble_eq_true rfl) (Nat.le_of_ble_eq_true rfl) (Nat.le_of_ble_eq_true rfl) ?_
      rintro v ws ⟨rfl, hws⟩
      rw [hws]
      show Vv _ _ _ _ _ _ _ _ _ _ _ _ _ _ _ [.int (nI (f.2.1.getD i []).length), .int (nI k)] (0, 0, g)
      refine v_icmp_ge (tgt := 85) X (dk D_Rf_same 20 rfl) (by decide) (fun c33 => absurd c33 (nI_ge (by omega) (by omega))) (fun _ => ?_)
      refine v_iload X (dk D_Rf_same 21 rfl) rfl ?_
      refine v_if_eq (tgt := 85) X (dk D_Rf_same 22 rfl) (by decide) (fun _ => ?_) (fun c38 => absurd rfl c38)
      refine v_iload X (dk D_Rf_same 48 rfl) rfl ?_
      exact v_zret X hlk hrt rfl (dk D_Rf_same 49 rfl) ⟨by rw [if_neg hno], rfl⟩
  have loop : (f.2.1.getD i []).length = (f.2.1.getD j []).length → ∀ (d k : Nat), k + d = (f.2.1.getD i []).length → (∀ m, m < k → (f.2.1.getD i []).getD m 0 = (f.2.1.getD j []).getD m 0) → Vv pp l ee (rmT 1 0 0) ss mm aa bb mt cd 6 q (MQ bb (Qw q (fun v w => v = some (.int (if (f.2.1.getD i []) = (f.2.1.getD j []) then 1 else 0)) ∧ w.2.2 = g)) aa ss 0 0 (fun a => q.1 ≤ a)) 25 [some (.ref 1003), some (.int (nI (na r))), some (.int (nI (i + 1))), some (.int (nI (j + 1))), some (.int 1), some (.int (nI k))] [] (0, 0, g) := by
    intro hlen d
    induction d with
    | zero =>
      intro k hkd hm
      refine v_iload X (dk D_Rf_same 15 rfl) rfl ?_
      refine v_aload_n X (dk D_Rf_same 16 rfl) rfl ?_
      refine v_iload_n X (dk D_Rf_same 17 rfl) rfl ?_
      refine v_iload_n X (dk D_Rf_same 18 rfl) rfl ?_
      refine v_invV (As := [.int (nI (na r)), .int (nI (i + 1))]) (st := [.int (nI k)]) X (r_argumentSize l q (i := i) hS hC (by omega)) (dk D_Rf_same 19 rfl) G_Rf_272 K_Rf_argumentSize V_Rf_argumentSize rfl rfl (hS.lt (by decide)) rfl rfl (Nat.le_of_ble_eq_true rfl) (Nat.le_of_ble_eq_true rfl) (Nat.le_of_ble_eq_true rfl) (Nat.le_of_ble_eq_true rfl) (Nat.le_of_ble_eq_true rfl) ?_
      rintro v ws ⟨rfl, hws⟩
      rw [hws]
      show Vv _ _ _ _ _ _ _ _ _ _ _ _ _ _ _ [.int (nI (f.2.1.getD i []).length), .int (nI k)] (0, 0, g)
      refine v_icmp_ge (tgt := 85) X (dk D_Rf_same 20 rfl) (by decide) (fun _ => ?_) (fun c33 => absurd (nI_le (by omega) (by omega)) c33)
      refine v_iload X (dk D_Rf_same 48 rfl) rfl ?_
      exact v_zret X hlk hrt rfl (dk D_Rf_same 49 rfl) ⟨by rw [if_pos (eq_getD hlen (fun j hj => hm j (by omega)))], rfl⟩
    | succ d ih =>
      intro k hkd hm
      refine v_iload X (dk D_Rf_same 15 rfl) rfl ?_
      refine v_aload_n X (dk D_Rf_same 16 rfl) rfl ?_
      refine v_iload_n X (dk D_Rf_same 17 rfl) rfl ?_
      refine v_iload_n X (dk D_Rf_same 18 rfl) rfl ?_
      refine v_invV (As := [.int (nI (na r)), .int (nI (i + 1))]) (st := [.int (nI k)]) X (r_argumentSize l q (i := i) hS hC (by omega)) (dk D_Rf_same 19 rfl) G_Rf_272 K_Rf_argumentSize V_Rf_argumentSize rfl rfl (hS.lt (by decide)) rfl rfl (Nat.le_of_ble_eq_true rfl) (Nat.le_of_ble_eq_true rfl) (Nat.le_of_ble_eq_true rfl) (Nat.le_of_ble_eq_true rfl) (Nat.le_of_ble_eq_true rfl) ?_
      rintro v ws ⟨rfl, hws⟩
      rw [hws]
      show Vv _ _ _ _ _ _ _ _ _ _ _ _ _ _ _ [.int (nI (f.2.1.getD i []).length), .int (nI k)] (0, 0, g)
      refine v_icmp_ge (tgt := 85) X (dk D_Rf_same 20 rfl) (by decide) (fun c33 => absurd c33 (nI_ge (by omega) (by omega))) (fun _ => ?_)
      refine v_iload X (dk D_Rf_same 21 rfl) rfl ?_
      refine v_if_eq (tgt := 85) X (dk D_Rf_same 22 rfl) (by decide) (fun c38 => absurd c38 (by decide)) (fun _ => ?_)
      refine v_aload_n X (dk D_Rf_same 23 rfl) rfl ?_
      refine v_getF X (dk D_Rf_same 24 rfl) F_Rf_56 rfl rfl (hS.lt (by decide)) (hS.2 1003 35) ?_
      refine v_aload_n X (dk D_Rf_same 25 rfl) rfl ?_
      refine v_iload_n X (dk D_Rf_same 26 rfl) rfl ?_
      refine v_iload_n X (dk D_Rf_same 27 rfl) rfl ?_
      refine v_invV (As := [.int (nI (na r)), .int (nI (i + 1))]) (st := [.ref 1018]) X (r_argumentAt l q (i := i) hS hC (by omega)) (dk D_Rf_same 28 rfl) G_Rf_268 K_Rf_argumentAt V_Rf_argumentAt rfl rfl (hS.lt (by decide)) rfl rfl (Nat.le_of_ble_eq_true rfl) (Nat.le_of_ble_eq_true rfl) (Nat.le_of_ble_eq_true rfl) (Nat.le_of_ble_eq_true rfl) (Nat.le_of_ble_eq_true rfl) ?_
      rintro v ws ⟨rfl, hws⟩
      rw [hws]
      show Vv _ _ _ _ _ _ _ _ _ _ _ _ _ _ _ [.int (nI (stA f r i)), .ref 1018] (0, 0, g)
      refine v_iload X (dk D_Rf_same 29 rfl) rfl ?_
      refine v_iadd X (dk D_Rf_same 30 rfl) ?_
      rw [nI_add]
      refine v_bald X (dk D_Rf_same 31 rfl) rfl (hS.lt (by decide)) (vp_in_nI (show stA f r i + k < 16385 by omega) (by decide)) ?_
      rw [nI_clamp (by omega), hrow k (by omega)]
      refine v_aload_n X (dk D_Rf_same 32 rfl) rfl ?_
      refine v_getF X (dk D_Rf_same 33 rfl) F_Rf_56 rfl rfl (hS.lt (by decide)) (hS.2 1003 35) ?_
      refine v_aload_n X (dk D_Rf_same 34 rfl) rfl ?_
      refine v_iload_n X (dk D_Rf_same 35 rfl) rfl ?_
      refine v_iload_n X (dk D_Rf_same 36 rfl) rfl ?_
      refine v_invV (As := [.int (nI (na r)), .int (nI (j + 1))]) (st := [.ref 1018, .int ((f.2.1.getD i []).getD k 0)]) X (r_argumentAt l q (i := j) hS hC (by omega)) (dk D_Rf_same 37 rfl) G_Rf_268 K_Rf_argumentAt V_Rf_argumentAt rfl rfl (hS.lt (by decide)) rfl rfl (Nat.le_of_ble_eq_true rfl) (Nat.le_of_ble_eq_true rfl) (Nat.le_of_ble_eq_true rfl) (Nat.le_of_ble_eq_true rfl) (Nat.le_of_ble_eq_true rfl) ?_
      rintro v ws ⟨rfl, hws⟩
      rw [hws]
      show Vv _ _ _ _ _ _ _ _ _ _ _ _ _ _ _ [.int (nI (stA f r j)), .ref 1018, .int ((f.2.1.getD i []).getD k 0)] (0, 0, g)
      refine v_iload X (dk D_Rf_same 38 rfl) rfl ?_
      refine v_iadd X (dk D_Rf_same 39 rfl) ?_
      rw [nI_add]
      refine v_bald X (dk D_Rf_same 40 rfl) rfl (hS.lt (by decide)) (vp_in_nI (show stA f r j + k < 16385 by omega) (by decide)) ?_
      rw [nI_clamp (by omega), hrow2 k (by omega)]
      refine v_icmp_ne (tgt := 76) X (dk D_Rf_same 41 rfl) (by decide) (fun c69 => ?_) (fun c69 => ?_)
      · refine v_iconst (v := 0) X (dk D_Rf_same 44 rfl) (by decide) ?_
        refine v_istore (lb := [some (.ref 1003), some (.int (nI (na r))), some (.int (nI (i + 1))), some (.int (nI (j + 1))), some (.int 0), some (.int (nI k))]) X (dk D_Rf_same 45 rfl) (by decide) rfl ?_
        refine v_iinc (v := nI (k + 1)) (lb := [some (.ref 1003), some (.int (nI (na r))), some (.int (nI (i + 1))), some (.int (nI (j + 1))), some (.int 0), some (.int (nI (k + 1)))]) X (dk D_Rf_same 46 rfl) rfl (nI_1 k) (by decide) rfl ?_
        refine v_goto (tgt := 25) X (dk D_Rf_same 47 rfl) (by decide) ?_
        exact bad (fun z => c69 (by rw [z])) (k + 1) (by omega)
      · refine v_iconst (v := 1) X (dk D_Rf_same 42 rfl) (by decide) ?_
        refine v_goto (tgt := 77) X (dk D_Rf_same 43 rfl) (by decide) ?_
        refine v_istore (lb := [some (.ref 1003), some (.int (nI (na r))), some (.int (nI (i + 1))), some (.int (nI (j + 1))), some (.int 1), some (.int (nI k))]) X (dk D_Rf_same 45 rfl) (by decide) rfl ?_
        refine v_iinc (v := nI (k + 1)) (lb := [some (.ref 1003), some (.int (nI (na r))), some (.int (nI (i + 1))), some (.int (nI (j + 1))), some (.int 1), some (.int (nI (k + 1)))]) X (dk D_Rf_same 46 rfl) rfl (nI_1 k) (by decide) rfl ?_
        refine v_goto (tgt := 25) X (dk D_Rf_same 47 rfl) (by decide) ?_
        exact ih (k + 1) (by omega) (fun m hj => by by_cases c : m = k; (rw [c]; exact c69); exact hm m (by omega))
  refine v_aload_n X (dk D_Rf_same 0 rfl) rfl ?_
  refine v_iload_n X (dk D_Rf_same 1 rfl) rfl ?_
  refine v_iload_n X (dk D_Rf_same 2 rfl) rfl ?_
  refine v_invV (As := [.int (nI (na r)), .int (nI (i + 1))]) (st := []) X (r_argumentSize l q (i := i) hS hC (by omega)) (dk D_Rf_same 3 rfl) G_Rf_272 K_Rf_argumentSize V_Rf_argumentSize rfl rfl (hS.lt (by decide)) rfl rfl (Nat.le_of_ble_eq_true rfl) (Nat.le_of_ble_eq_true rfl) (Nat.le_of_ble_eq_true rfl) (Nat.le_of_ble_eq_true rfl) (Nat.le_of_ble_eq_true rfl) ?_
  rintro v ws ⟨rfl, hws⟩
  rw [hws]
  show Vv _ _ _ _ _ _ _ _ _ _ _ _ _ _ _ [.int (nI (f.2.1.getD i []).length)] (0, 0, g)
  refine v_aload_n X (dk D_Rf_same 4 rfl) rfl ?_
  refine v_iload_n X (dk D_Rf_same 5 rfl) rfl ?_
  refine v_iload_n X (dk D_Rf_same 6 rfl) rfl ?_
  refine v_invV (As := [.int (nI (na r)), .int (nI (j + 1))]) (st := [.int (nI (f.2.1.getD i []).length)]) X (r_argumentSize l q (i := j) hS hC (by omega)) (dk D_Rf_same 7 rfl) G_Rf_272 K_Rf_argumentSize V_Rf_argumentSize rfl rfl (hS.lt (by decide)) rfl rfl (Nat.le_of_ble_eq_true rfl) (Nat.le_of_ble_eq_true rfl) (Nat.le_of_ble_eq_true rfl) (Nat.le_of_ble_eq_true rfl) (Nat.le_of_ble_eq_true rfl) ?_
  rintro v ws ⟨rfl, hws⟩
  rw [hws]
  show Vv _ _ _ _ _ _ _ _ _ _ _ _ _ _ _ [.int (nI (f.2.1.getD j []).length), .int (nI (f.2.1.getD i []).length)] (0, 0, g)
  refine v_icmp_ne (tgt := 19) X (dk D_Rf_same 8 rfl) (by decide) (fun c12 => ?_) (fun c12 => ?_)
  · refine v_iconst (v := 0) X (dk D_Rf_same 11 rfl) (by decide) ?_
    refine v_istore (lb := [some (.ref 1003), some (.int (nI (na r))), some (.int (nI (i + 1))), some (.int (nI (j + 1))), some (.int 0), none]) X (dk D_Rf_same 12 rfl) (by decide) rfl ?_
    refine v_iconst (v := nI 0) X (dk D_Rf_same 13 rfl) (by decide) ?_
    refine v_istore (lb := [some (.ref 1003), some (.int (nI (na r))), some (.int (nI (i + 1))), some (.int (nI (j + 1))), some (.int 0), some (.int (nI 0))]) X (dk D_Rf_same 14 rfl) (by decide) rfl ?_
    exact bad (fun z => c12 (by rw [z])) 0 (by omega)
  · refine v_iconst (v := 1) X (dk D_Rf_same 9 rfl) (by decide) ?_
    refine v_goto (tgt := 20) X (dk D_Rf_same 10 rfl) (by decide) ?_
    refine v_istore (lb := [some (.ref 1003), some (.int (nI (na r))), some (.int (nI (i + 1))), some (.int (nI (j + 1))), some (.int 1), none]) X (dk D_Rf_same 12 rfl) (by decide) rfl ?_
    refine v_iconst (v := nI 0) X (dk D_Rf_same 13 rfl) (by decide) ?_
    refine v_istore (lb := [some (.ref 1003), some (.int (nI (na r))), some (.int (nI (i + 1))), some (.int (nI (j + 1))), some (.int 1), some (.int (nI 0))]) X (dk D_Rf_same 14 rfl) (by decide) rfl ?_
    exact loop ((nI_eq (by omega) (by omega)).mp c12) (f.2.1.getD i []).length 0 (by omega) (fun j hj => by omega)
theorem qtB_iff {b : Int32} : qtB b = true ↔ (¬ isLet b = true ∧ ¬ isDig b = true ∧ ¬ isBlk b = true ∧ ¬ b = 10 ∧ ¬ b = 35 ∧ ¬ b = 40 ∧ ¬ b = 41 ∧ ¬ b = 44) := by
  have hsp : isSpc b = true ↔ (isBlk b = true ∨ b = 10) := by
    rw [isSpc, isBlk, decide_eq_true_eq, decide_eq_true_eq]
    constructor
    · rintro (h | ⟨h1, h2⟩)
      · exact Or.inl (Or.inl h)
      · obtain ⟨j, hj, rfl⟩ := nI_of2 (M := 13) (n := 13) rfl (fun z => h1 (Int32.lt_trans z (by decide))) (Int32.not_lt.mp h2)
        have : 9 ≤ j := Decidable.byContradiction (fun z => h1 (nI_lt (b := 9) (by omega) (by decide)))
        rcases (show j = 9 ∨ j = 10 ∨ j = 11 ∨ j = 12 ∨ j = 13 by omega) with rfl | rfl | rfl | rfl | rfl
        · exact Or.inl (Or.inr (Or.inl rfl))
        · exact Or.inr rfl
        · exact Or.inl (Or.inr (Or.inr (Or.inl rfl)))
        · exact Or.inl (Or.inr (Or.inr (Or.inr (Or.inl rfl))))
        · exact Or.inl (Or.inr (Or.inr (Or.inr (Or.inr rfl))))
    · rintro ((h | h | h | h | h) | h)
      · exact Or.inl h
      all_goals (rw [h]; exact Or.inr ⟨by decide, by decide⟩)
  rw [qtB, decide_eq_true_eq, hsp, isNam, Bool.or_eq_true, not_or, not_or, and_assoc, and_assoc]
theorem qtB_of {b : Int32} (h1 : ¬ isLet b = true) (h2 : ¬ isDig b = true) (h3 : ¬ isBlk b = true) (h4 : ¬ b = 10) (h5 : ¬ b = 35) (h6 : ¬ b = 40) (h7 : ¬ b = 41) (h8 : ¬ b = 44) : qtB b = true := qtB_iff.mpr ⟨h1, h2, h3, h4, h5, h6, h7, h8⟩
set_option maxHeartbeats 4000000 in
set_option maxRecDepth 100000 in
theorem r_isQuote (l : Launch) (q : ev_T) {i : Nat} {f : Fr} {r : List Fr} {g : mu_T} (hS : Shp g) (hC : AC g f r) (hi : i < 10000) : Ctr l q M_Rf_isQuote 1 [.ref 1003, .int (nI (na r)), .int (nI (i + 1))] (0, 0, g) (fun v w => v = some (.int (if isQt (f.2.1.getD i []) = true then 1 else 0)) ∧ w.2.2 = g) := by
  have hle := ag_le (f := f) (r := r) i
  have h16 := hC.1.1.2.2
  have hrow := hC.1.1.arg i
  refine Ctr.mk (lb := [some (.ref 1003), some (.int (nI (na r))), some (.int (nI (i + 1))), none, none, none, none]) (by decide +kernel) (Nat.le_of_ble_eq_true rfl) rfl rfl ?_
  intro pp ee ss mm aa bb mt cd X hrt hlk hnm
  have bad : ¬ isQt (f.2.1.getD i []) = true → ∀ k, k ≤ (f.2.1.getD i []).length + 1 → Vv pp l ee (rmT 1 0 0) ss mm aa bb mt cd 7 q (MQ bb (Qw q (fun v w => v = some (.int (if isQt (f.2.1.getD i []) = true then 1 else 0)) ∧ w.2.2 = g)) aa ss 0 0 (fun a => q.1 ≤ a)) 26 [some (.ref 1003), some (.int (nI (na r))), some (.int (nI (i + 1))), some (.int (nI (f.2.1.getD i []).length)), some (.int 0), some (.int (nI k)), none] [] (0, 0, g) := by
    intro hno k hk
    by_cases c : (f.2.1.getD i []).length ≤ k
    · refine v_iload X (dk D_Rf_isQuote 16 rfl) rfl ?_
      refine v_iload_n X (dk D_Rf_isQuote 17 rfl) rfl ?_
      refine v_icmp_ge (tgt := 129) X (dk D_Rf_isQuote 18 rfl) (by decide) (fun _ => ?_) (fun c29 => absurd (nI_le (by omega) (by omega)) c29)
      refine v_iload X (dk D_Rf_isQuote 63 rfl) rfl ?_
      exact v_zret X hlk hrt rfl (dk D_Rf_isQuote 64 rfl) ⟨by rw [if_neg hno], rfl⟩
    · refine v_iload X (dk D_Rf_isQuote 16 rfl) rfl ?_
      refine v_iload_n X (dk D_Rf_isQuote 17 rfl) rfl ?_
      refine v_icmp_ge (tgt := 129) X (dk D_Rf_isQuote 18 rfl) (by decide) (fun c29 => absurd c29 (nI_ge (by omega) (by omega))) (fun _ => ?_)
      refine v_iload X (dk D_Rf_isQuote 19 rfl) rfl ?_
      refine v_if_eq (tgt := 129) X (dk D_Rf_isQuote 20 rfl) (by decide) (fun _ => ?_) (fun c34 => absurd rfl c34)
      refine v_iload X (dk D_Rf_isQuote 63 rfl) rfl ?_
      exact v_zret X hlk hrt rfl (dk D_Rf_isQuote 64 rfl) ⟨by rw [if_neg hno], rfl⟩
  have loop : 0 < (f.2.1.getD i []).length → (f.2.1.getD i []).length < 5 → ∀ (d k : Nat), k + d = (f.2.1.getD i []).length → (∀ j, j < k → qtB ((f.2.1.getD i []).getD j 0 &&& 255) = true) → Vv pp l ee (rmT 1 0 0) ss mm aa bb mt cd 7 q (MQ bb (Qw q (fun v w => v = some (.int (if isQt (f.2.1.getD i []) = true then 1 else 0)) ∧ w.2.2 = g)) aa ss 0 0 (fun a => q.1 ≤ a)) 26 [some (.ref 1003), some (.int (nI (na r))), some (.int (nI (i + 1))), some (.int (nI (f.2.1.getD i []).length)), some (.int 1), some (.int (nI k)), none] [] (0, 0, g) := by
    intro hl0 hl5 d
    induction d with
    | zero =>
      intro k hkd hm
      refine v_iload X (dk D_Rf_isQuote 16 rfl) rfl ?_
      refine v_iload_n X (dk D_Rf_isQuote 17 rfl) rfl ?_
      refine v_icmp_ge (tgt := 129) X (dk D_Rf_isQuote 18 rfl) (by decide) (fun _ => ?_) (fun c29 => absurd (nI_le (by omega) (by omega)) c29)
      refine v_iload X (dk D_Rf_isQuote 63 rfl) rfl ?_
      exact v_zret X hlk hrt rfl (dk D_Rf_isQuote 64 rfl) ⟨by rw [if_pos (show isQt _ = true from decide_eq_true ⟨by omega, by omega, fun j hj => hm j (by omega)⟩)], rfl⟩
    | succ d ih =>
      intro k hkd hm
      by_cases hqt : qtB ((f.2.1.getD i []).getD k 0 &&& 255) = true
      · obtain ⟨q1, q2, q3, q4, q5, q6, q7, q8⟩ := qtB_iff.mp hqt
        refine v_iload X (dk D_Rf_isQuote 16 rfl) rfl ?_
        refine v_iload_n X (dk D_Rf_isQuote 17 rfl) rfl ?_
        refine v_icmp_ge (tgt := 129) X (dk D_Rf_isQuote 18 rfl) (by decide) (fun c29 => absurd c29 (nI_ge (by omega) (by omega))) (fun _ => ?_)
        refine v_iload X (dk D_Rf_isQuote 19 rfl) rfl ?_
        refine v_if_eq (tgt := 129) X (dk D_Rf_isQuote 20 rfl) (by decide) (fun c34 => absurd c34 (by decide)) (fun _ => ?_)
        refine v_aload_n X (dk D_Rf_isQuote 21 rfl) rfl ?_
        refine v_getF X (dk D_Rf_isQuote 22 rfl) F_Rf_56 rfl rfl (hS.lt (by decide)) (hS.2 1003 35) ?_
        refine v_aload_n X (dk D_Rf_isQuote 23 rfl) rfl ?_
        refine v_iload_n X (dk D_Rf_isQuote 24 rfl) rfl ?_
        refine v_iload_n X (dk D_Rf_isQuote 25 rfl) rfl ?_
        refine v_invV (As := [.int (nI (na r)), .int (nI (i + 1))]) (st := [.ref 1018]) X (r_argumentAt l q (i := i) hS hC (by omega)) (dk D_Rf_isQuote 26 rfl) G_Rf_268 K_Rf_argumentAt V_Rf_argumentAt rfl rfl (hS.lt (by decide)) rfl rfl (Nat.le_of_ble_eq_true rfl) (Nat.le_of_ble_eq_true rfl) (Nat.le_of_ble_eq_true rfl) (Nat.le_of_ble_eq_true rfl) (Nat.le_of_ble_eq_true rfl) ?_
        rintro v ws ⟨rfl, hws⟩
        rw [hws]
        show Vv _ _ _ _ _ _ _ _ _ _ _ _ _ _ _ [.int (nI (stA f r i)), .ref 1018] (0, 0, g)
        refine v_iload X (dk D_Rf_isQuote 27 rfl) rfl ?_
        refine v_iadd X (dk D_Rf_isQuote 28 rfl) ?_
        rw [nI_add]
        refine v_bald X (dk D_Rf_isQuote 29 rfl) rfl (hS.lt (by decide)) (vp_in_nI (show stA f r i + k < 16385 by omega) (by decide)) ?_
        rw [nI_clamp (by omega), hrow k (by omega)]
        refine v_sipush (v := 255) X (dk D_Rf_isQuote 30 rfl) (by decide) ?_
        refine v_iand X (dk D_Rf_isQuote 31 rfl) ?_
        refine v_istore (lb := [some (.ref 1003), some (.int (nI (na r))), some (.int (nI (i + 1))), some (.int (nI (f.2.1.getD i []).length)), some (.int 1), some (.int (nI k)), some (.int ((f.2.1.getD i []).getD k 0 &&& 255))]) X (dk D_Rf_isQuote 32 rfl) (by decide) rfl ?_
        refine v_iload X (dk D_Rf_isQuote 33 rfl) rfl ?_
        refine v_invS (As := [.int ((f.2.1.getD i []).getD k 0 &&& 255)]) (st := []) X (r_isLetter l q (b := ((f.2.1.getD i []).getD k 0 &&& 255)) (g := g)) (dk D_Rf_isQuote 34 rfl) G_Rf_132 K_Rf_isLetter S_Rf_isLetter rfl rfl (Nat.le_of_ble_eq_true rfl) (Nat.le_of_ble_eq_true rfl) (Nat.le_of_ble_eq_true rfl) (Nat.le_of_ble_eq_true rfl) (Nat.le_of_ble_eq_true rfl) ?_
        rintro v ws ⟨rfl, hws⟩
        rw [hws]
        show Vv _ _ _ _ _ _ _ _ _ _ _ _ _ _ _ [.int (if isLet ((f.2.1.getD i []).getD k 0 &&& 255) = true then 1 else 0)] (0, 0, g)
        refine v_if_ne (tgt := 120) X (dk D_Rf_isQuote 35 rfl) (by decide) (fun c62 => absurd (by rw [if_neg q1]) c62) (fun _ => ?_)
        refine v_iload X (dk D_Rf_isQuote 36 rfl) rfl ?_
        refine v_invS (As := [.int ((f.2.1.getD i []).getD k 0 &&& 255)]) (st := []) X (r_isDigit l q (b := ((f.2.1.getD i []).getD k 0 &&& 255)) (g := g)) (dk D_Rf_isQuote 37 rfl) G_Rf_136 K_Rf_isDigit S_Rf_isDigit rfl rfl (Nat.le_of_ble_eq_true rfl) (Nat.le_of_ble_eq_true rfl) (Nat.le_of_ble_eq_true rfl) (Nat.le_of_ble_eq_true rfl) (Nat.le_of_ble_eq_true rfl) ?_
        rintro v ws ⟨rfl, hws⟩
        rw [hws]
        show Vv _ _ _ _ _ _ _ _ _ _ _ _ _ _ _ [.int (if isDig ((f.2.1.getD i []).getD k 0 &&& 255) = true then 1 else 0)] (0, 0, g)
        refine v_if_ne (tgt := 120) X (dk D_Rf_isQuote 38 rfl) (by decide) (fun c70 => absurd (by rw [if_neg q2]) c70) (fun _ => ?_)
        refine v_iload X (dk D_Rf_isQuote 39 rfl) rfl ?_
        refine v_invS (As := [.int ((f.2.1.getD i []).getD k 0 &&& 255)]) (st := []) X (r_isBlank l q (b := ((f.2.1.getD i []).getD k 0 &&& 255)) (g := g)) (dk D_Rf_isQuote 40 rfl) G_Rf_262 K_Rf_isBlank S_Rf_isBlank rfl rfl (Nat.le_of_ble_eq_true rfl) (Nat.le_of_ble_eq_true rfl) (Nat.le_of_ble_eq_true rfl) (Nat.le_of_ble_eq_true rfl) (Nat.le_of_ble_eq_true rfl) ?_
        rintro v ws ⟨rfl, hws⟩
        rw [hws]
        show Vv _ _ _ _ _ _ _ _ _ _ _ _ _ _ _ [.int (if isBlk ((f.2.1.getD i []).getD k 0 &&& 255) = true then 1 else 0)] (0, 0, g)
        refine v_if_ne (tgt := 120) X (dk D_Rf_isQuote 41 rfl) (by decide) (fun c78 => absurd (by rw [if_neg q3]) c78) (fun _ => ?_)
        refine v_iload X (dk D_Rf_isQuote 42 rfl) rfl ?_
        refine v_bipush (v := 10) X (dk D_Rf_isQuote 43 rfl) (by decide) ?_
        refine v_icmp_eq (tgt := 120) X (dk D_Rf_isQuote 44 rfl) (by decide) (fun c85 => absurd c85 q4) (fun _ => ?_)
        refine v_iload X (dk D_Rf_isQuote 45 rfl) rfl ?_
        refine v_bipush (v := 35) X (dk D_Rf_isQuote 46 rfl) (by decide) ?_
        refine v_icmp_eq (tgt := 120) X (dk D_Rf_isQuote 47 rfl) (by decide) (fun c92 => absurd c92 q5) (fun _ => ?_)
        refine v_iload X (dk D_Rf_isQuote 48 rfl) rfl ?_
        refine v_bipush (v := 40) X (dk D_Rf_isQuote 49 rfl) (by decide) ?_
        refine v_icmp_eq (tgt := 120) X (dk D_Rf_isQuote 50 rfl) (by decide) (fun c99 => absurd c99 q6) (fun _ => ?_)
        refine v_iload X (dk D_Rf_isQuote 51 rfl) rfl ?_
        refine v_bipush (v := 41) X (dk D_Rf_isQuote 52 rfl) (by decide) ?_
        refine v_icmp_eq (tgt := 120) X (dk D_Rf_isQuote 53 rfl) (by decide) (fun c106 => absurd c106 q7) (fun _ => ?_)
        refine v_iload X (dk D_Rf_isQuote 54 rfl) rfl ?_
        refine v_bipush (v := 44) X (dk D_Rf_isQuote 55 rfl) (by decide) ?_
        refine v_icmp_eq (tgt := 120) X (dk D_Rf_isQuote 56 rfl) (by decide) (fun c113 => absurd c113 q8) (fun _ => ?_)
        refine v_iconst (v := 1) X (dk D_Rf_isQuote 57 rfl) (by decide) ?_
        refine v_goto (tgt := 121) X (dk D_Rf_isQuote 58 rfl) (by decide) ?_
        refine v_istore (lb := [some (.ref 1003), some (.int (nI (na r))), some (.int (nI (i + 1))), some (.int (nI (f.2.1.getD i []).length)), some (.int 1), some (.int (nI k)), some (.int ((f.2.1.getD i []).getD k 0 &&& 255))]) X (dk D_Rf_isQuote 60 rfl) (by decide) rfl ?_
        refine v_iinc (v := nI (k + 1)) (lb := [some (.ref 1003), some (.int (nI (na r))), some (.int (nI (i + 1))), some (.int (nI (f.2.1.getD i []).length)), some (.int 1), some (.int (nI (k + 1))), some (.int ((f.2.1.getD i []).getD k 0 &&& 255))]) X (dk D_Rf_isQuote 61 rfl) rfl (nI_1 _) (by decide) rfl ?_
        refine v_goto (tgt := 26) X (dk D_Rf_isQuote 62 rfl) (by decide) ?_
        exact v_weak (la := [some (.ref 1003), some (.int (nI (na r))), some (.int (nI (i + 1))), some (.int (nI (f.2.1.getD i []).length)), some (.int 1), some (.int (nI (k + 1))), none]) ⟨rfl, rfl, rfl, rfl, rfl, rfl, trivial⟩ <| ih (k + 1) (by omega) (fun j hj => by by_cases c : j = k; (rw [c]; exact hqt); exact hm j (by omega))
      · refine v_iload X (dk D_Rf_isQuote 16 rfl) rfl ?_
        refine v_iload_n X (dk D_Rf_isQuote 17 rfl) rfl ?_
        refine v_icmp_ge (tgt := 129) X (dk D_Rf_isQuote 18 rfl) (by decide) (fun c29 => absurd c29 (nI_ge (by omega) (by omega))) (fun _ => ?_)
        refine v_iload X (dk D_Rf_isQuote 19 rfl) rfl ?_
        refine v_if_eq (tgt := 129) X (dk D_Rf_isQuote 20 rfl) (by decide) (fun c34 => absurd c34 (by decide)) (fun _ => ?_)
        refine v_aload_n X (dk D_Rf_isQuote 21 rfl) rfl ?_
        refine v_getF X (dk D_Rf_isQuote 22 rfl) F_Rf_56 rfl rfl (hS.lt (by decide)) (hS.2 1003 35) ?_
        refine v_aload_n X (dk D_Rf_isQuote 23 rfl) rfl ?_
        refine v_iload_n X (dk D_Rf_isQuote 24 rfl) rfl ?_
        refine v_iload_n X (dk D_Rf_isQuote 25 rfl) rfl ?_
        refine v_invV (As := [.int (nI (na r)), .int (nI (i + 1))]) (st := [.ref 1018]) X (r_argumentAt l q (i := i) hS hC (by omega)) (dk D_Rf_isQuote 26 rfl) G_Rf_268 K_Rf_argumentAt V_Rf_argumentAt rfl rfl (hS.lt (by decide)) rfl rfl (Nat.le_of_ble_eq_true rfl) (Nat.le_of_ble_eq_true rfl) (Nat.le_of_ble_eq_true rfl) (Nat.le_of_ble_eq_true rfl) (Nat.le_of_ble_eq_true rfl) ?_
        rintro v ws ⟨rfl, hws⟩
        rw [hws]
        show Vv _ _ _ _ _ _ _ _ _ _ _ _ _ _ _ [.int (nI (stA f r i)), .ref 1018] (0, 0, g)
        refine v_iload X (dk D_Rf_isQuote 27 rfl) rfl ?_
        refine v_iadd X (dk D_Rf_isQuote 28 rfl) ?_
        rw [nI_add]
        refine v_bald X (dk D_Rf_isQuote 29 rfl) rfl (hS.lt (by decide)) (vp_in_nI (show stA f r i + k < 16385 by omega) (by decide)) ?_
        rw [nI_clamp (by omega), hrow k (by omega)]
        refine v_sipush (v := 255) X (dk D_Rf_isQuote 30 rfl) (by decide) ?_
        refine v_iand X (dk D_Rf_isQuote 31 rfl) ?_
        refine v_istore (lb := [some (.ref 1003), some (.int (nI (na r))), some (.int (nI (i + 1))), some (.int (nI (f.2.1.getD i []).length)), some (.int 1), some (.int (nI k)), some (.int ((f.2.1.getD i []).getD k 0 &&& 255))]) X (dk D_Rf_isQuote 32 rfl) (by decide) rfl ?_
        refine v_iload X (dk D_Rf_isQuote 33 rfl) rfl ?_
        refine v_invS (As := [.int ((f.2.1.getD i []).getD k 0 &&& 255)]) (st := []) X (r_isLetter l q (b := ((f.2.1.getD i []).getD k 0 &&& 255)) (g := g)) (dk D_Rf_isQuote 34 rfl) G_Rf_132 K_Rf_isLetter S_Rf_isLetter rfl rfl (Nat.le_of_ble_eq_true rfl) (Nat.le_of_ble_eq_true rfl) (Nat.le_of_ble_eq_true rfl) (Nat.le_of_ble_eq_true rfl) (Nat.le_of_ble_eq_true rfl) ?_
        rintro v ws ⟨rfl, hws⟩
        rw [hws]
        show Vv _ _ _ _ _ _ _ _ _ _ _ _ _ _ _ [.int (if isLet ((f.2.1.getD i []).getD k 0 &&& 255) = true then 1 else 0)] (0, 0, g)
        refine v_if_ne (tgt := 120) X (dk D_Rf_isQuote 35 rfl) (by decide) (fun c62 => ?_) (fun c62 => ?_)
        · refine v_iconst (v := 0) X (dk D_Rf_isQuote 59 rfl) (by decide) ?_
          refine v_istore (lb := [some (.ref 1003), some (.int (nI (na r))), some (.int (nI (i + 1))), some (.int (nI (f.2.1.getD i []).length)), some (.int 0), some (.int (nI k)), some (.int ((f.2.1.getD i []).getD k 0 &&& 255))]) X (dk D_Rf_isQuote 60 rfl) (by decide) rfl ?_
          refine v_iinc (v := nI (k + 1)) (lb := [some (.ref 1003), some (.int (nI (na r))), some (.int (nI (i + 1))), some (.int (nI (f.2.1.getD i []).length)), some (.int 0), some (.int (nI (k + 1))), some (.int ((f.2.1.getD i []).getD k 0 &&& 255))]) X (dk D_Rf_isQuote 61 rfl) rfl (nI_1 _) (by decide) rfl ?_
          refine v_goto (tgt := 26) X (dk D_Rf_isQuote 62 rfl) (by decide) ?_
          exact v_weak (la := [some (.ref 1003), some (.int (nI (na r))), some (.int (nI (i + 1))), some (.int (nI (f.2.1.getD i []).length)), some (.int 0), some (.int (nI (k + 1))), none]) ⟨rfl, rfl, rfl, rfl, rfl, rfl, trivial⟩ <| bad (fun z => hqt ((of_decide_eq_true z).2.2 k (by omega))) (k + 1) (by omega)
        · refine v_iload X (dk D_Rf_isQuote 36 rfl) rfl ?_
          refine v_invS (As := [.int ((f.2.1.getD i []).getD k 0 &&& 255)]) (st := []) X (r_isDigit l q (b := ((f.2.1.getD i []).getD k 0 &&& 255)) (g := g)) (dk D_Rf_isQuote 37 rfl) G_Rf_136 K_Rf_isDigit S_Rf_isDigit rfl rfl (Nat.le_of_ble_eq_true rfl) (Nat.le_of_ble_eq_true rfl) (Nat.le_of_ble_eq_true rfl) (Nat.le_of_ble_eq_true rfl) (Nat.le_of_ble_eq_true rfl) ?_
          rintro v ws ⟨rfl, hws⟩
          rw [hws]
          show Vv _ _ _ _ _ _ _ _ _ _ _ _ _ _ _ [.int (if isDig ((f.2.1.getD i []).getD k 0 &&& 255) = true then 1 else 0)] (0, 0, g)
          refine v_if_ne (tgt := 120) X (dk D_Rf_isQuote 38 rfl) (by decide) (fun c70 => ?_) (fun c70 => ?_)
          · refine v_iconst (v := 0) X (dk D_Rf_isQuote 59 rfl) (by decide) ?_
            refine v_istore (lb := [some (.ref 1003), some (.int (nI (na r))), some (.int (nI (i + 1))), some (.int (nI (f.2.1.getD i []).length)), some (.int 0), some (.int (nI k)), some (.int ((f.2.1.getD i []).getD k 0 &&& 255))]) X (dk D_Rf_isQuote 60 rfl) (by decide) rfl ?_
            refine v_iinc (v := nI (k + 1)) (lb := [some (.ref 1003), some (.int (nI (na r))), some (.int (nI (i + 1))), some (.int (nI (f.2.1.getD i []).length)), some (.int 0), some (.int (nI (k + 1))), some (.int ((f.2.1.getD i []).getD k 0 &&& 255))]) X (dk D_Rf_isQuote 61 rfl) rfl (nI_1 _) (by decide) rfl ?_
            refine v_goto (tgt := 26) X (dk D_Rf_isQuote 62 rfl) (by decide) ?_
            exact v_weak (la := [some (.ref 1003), some (.int (nI (na r))), some (.int (nI (i + 1))), some (.int (nI (f.2.1.getD i []).length)), some (.int 0), some (.int (nI (k + 1))), none]) ⟨rfl, rfl, rfl, rfl, rfl, rfl, trivial⟩ <| bad (fun z => hqt ((of_decide_eq_true z).2.2 k (by omega))) (k + 1) (by omega)
          · refine v_iload X (dk D_Rf_isQuote 39 rfl) rfl ?_
            refine v_invS (As := [.int ((f.2.1.getD i []).getD k 0 &&& 255)]) (st := []) X (r_isBlank l q (b := ((f.2.1.getD i []).getD k 0 &&& 255)) (g := g)) (dk D_Rf_isQuote 40 rfl) G_Rf_262 K_Rf_isBlank S_Rf_isBlank rfl rfl (Nat.le_of_ble_eq_true rfl) (Nat.le_of_ble_eq_true rfl) (Nat.le_of_ble_eq_true rfl) (Nat.le_of_ble_eq_true rfl) (Nat.le_of_ble_eq_true rfl) ?_
            rintro v ws ⟨rfl, hws⟩
            rw [hws]
            show Vv _ _ _ _ _ _ _ _ _ _ _ _ _ _ _ [.int (if isBlk ((f.2.1.getD i []).getD k 0 &&& 255) = true then 1 else 0)] (0, 0, g)
            refine v_if_ne (tgt := 120) X (dk D_Rf_isQuote 41 rfl) (by decide) (fun c78 => ?_) (fun c78 => ?_)
            · refine v_iconst (v := 0) X (dk D_Rf_isQuote 59 rfl) (by decide) ?_
              refine v_istore (lb := [some (.ref 1003), some (.int (nI (na r))), some (.int (nI (i + 1))), some (.int (nI (f.2.1.getD i []).length)), some (.int 0), some (.int (nI k)), some (.int ((f.2.1.getD i []).getD k 0 &&& 255))]) X (dk D_Rf_isQuote 60 rfl) (by decide) rfl ?_
              refine v_iinc (v := nI (k + 1)) (lb := [some (.ref 1003), some (.int (nI (na r))), some (.int (nI (i + 1))), some (.int (nI (f.2.1.getD i []).length)), some (.int 0), some (.int (nI (k + 1))), some (.int ((f.2.1.getD i []).getD k 0 &&& 255))]) X (dk D_Rf_isQuote 61 rfl) rfl (nI_1 _) (by decide) rfl ?_
              refine v_goto (tgt := 26) X (dk D_Rf_isQuote 62 rfl) (by decide) ?_
              exact v_weak (la := [some (.ref 1003), some (.int (nI (na r))), some (.int (nI (i + 1))), some (.int (nI (f.2.1.getD i []).length)), some (.int 0), some (.int (nI (k + 1))), none]) ⟨rfl, rfl, rfl, rfl, rfl, rfl, trivial⟩ <| bad (fun z => hqt ((of_decide_eq_true z).2.2 k (by omega))) (k + 1) (by omega)
            · refine v_iload X (dk D_Rf_isQuote 42 rfl) rfl ?_
              refine v_bipush (v := 10) X (dk D_Rf_isQuote 43 rfl) (by decide) ?_
              refine v_icmp_eq (tgt := 120) X (dk D_Rf_isQuote 44 rfl) (by decide) (fun c85 => ?_) (fun c85 => ?_)
              · refine v_iconst (v := 0) X (dk D_Rf_isQuote 59 rfl) (by decide) ?_
                refine v_istore (lb := [some (.ref 1003), some (.int (nI (na r))), some (.int (nI (i + 1))), some (.int (nI (f.2.1.getD i []).length)), some (.int 0), some (.int (nI k)), some (.int ((f.2.1.getD i []).getD k 0 &&& 255))]) X (dk D_Rf_isQuote 60 rfl) (by decide) rfl ?_
                refine v_iinc (v := nI (k + 1)) (lb := [some (.ref 1003), some (.int (nI (na r))), some (.int (nI (i + 1))), some (.int (nI (f.2.1.getD i []).length)), some (.int 0), some (.int (nI (k + 1))), some (.int ((f.2.1.getD i []).getD k 0 &&& 255))]) X (dk D_Rf_isQuote 61 rfl) rfl (nI_1 _) (by decide) rfl ?_
                refine v_goto (tgt := 26) X (dk D_Rf_isQuote 62 rfl) (by decide) ?_
                exact v_weak (la := [some (.ref 1003), some (.int (nI (na r))), some (.int (nI (i + 1))), some (.int (nI (f.2.1.getD i []).length)), some (.int 0), some (.int (nI (k + 1))), none]) ⟨rfl, rfl, rfl, rfl, rfl, rfl, trivial⟩ <| bad (fun z => hqt ((of_decide_eq_true z).2.2 k (by omega))) (k + 1) (by omega)
              · refine v_iload X (dk D_Rf_isQuote 45 rfl) rfl ?_
                refine v_bipush (v := 35) X (dk D_Rf_isQuote 46 rfl) (by decide) ?_
                refine v_icmp_eq (tgt := 120) X (dk D_Rf_isQuote 47 rfl) (by decide) (fun c92 => ?_) (fun c92 => ?_)
                · refine v_iconst (v := 0) X (dk D_Rf_isQuote 59 rfl) (by decide) ?_
                  refine v_istore (lb := [some (.ref 1003), some (.int (nI (na r))), some (.int (nI (i + 1))), some (.int (nI (f.2.1.getD i []).length)), some (.int 0), some (.int (nI k)), some (.int ((f.2.1.getD i []).getD k 0 &&& 255))]) X (dk D_Rf_isQuote 60 rfl) (by decide) rfl ?_
                  refine v_iinc (v := nI (k + 1)) (lb := [some (.ref 1003), some (.int (nI (na r))), some (.int (nI (i + 1))), some (.int (nI (f.2.1.getD i []).length)), some (.int 0), some (.int (nI (k + 1))), some (.int ((f.2.1.getD i []).getD k 0 &&& 255))]) X (dk D_Rf_isQuote 61 rfl) rfl (nI_1 _) (by decide) rfl ?_
                  refine v_goto (tgt := 26) X (dk D_Rf_isQuote 62 rfl) (by decide) ?_
                  exact v_weak (la := [some (.ref 1003), some (.int (nI (na r))), some (.int (nI (i + 1))), some (.int (nI (f.2.1.getD i []).length)), some (.int 0), some (.int (nI (k + 1))), none]) ⟨rfl, rfl, rfl, rfl, rfl, rfl, trivial⟩ <| bad (fun z => hqt ((of_decide_eq_true z).2.2 k (by omega))) (k + 1) (by omega)
                · refine v_iload X (dk D_Rf_isQuote 48 rfl) rfl ?_
                  refine v_bipush (v := 40) X (dk D_Rf_isQuote 49 rfl) (by decide) ?_
                  refine v_icmp_eq (tgt := 120) X (dk D_Rf_isQuote 50 rfl) (by decide) (fun c99 => ?_) (fun c99 => ?_)
                  · refine v_iconst (v := 0) X (dk D_Rf_isQuote 59 rfl) (by decide) ?_
                    refine v_istore (lb := [some (.ref 1003), some (.int (nI (na r))), some (.int (nI (i + 1))), some (.int (nI (f.2.1.getD i []).length)), some (.int 0), some (.int (nI k)), some (.int ((f.2.1.getD i []).getD k 0 &&& 255))]) X (dk D_Rf_isQuote 60 rfl) (by decide) rfl ?_
                    refine v_iinc (v := nI (k + 1)) (lb := [some (.ref 1003), some (.int (nI (na r))), some (.int (nI (i + 1))), some (.int (nI (f.2.1.getD i []).length)), some (.int 0), some (.int (nI (k + 1))), some (.int ((f.2.1.getD i []).getD k 0 &&& 255))]) X (dk D_Rf_isQuote 61 rfl) rfl (nI_1 _) (by decide) rfl ?_
                    refine v_goto (tgt := 26) X (dk D_Rf_isQuote 62 rfl) (by decide) ?_
                    exact v_weak (la := [some (.ref 1003), some (.int (nI (na r))), some (.int (nI (i + 1))), some (.int (nI (f.2.1.getD i []).length)), some (.int 0), some (.int (nI (k + 1))), none]) ⟨rfl, rfl, rfl, rfl, rfl, rfl, trivial⟩ <| bad (fun z => hqt ((of_decide_eq_true z).2.2 k (by omega))) (k + 1) (by omega)
                  · refine v_iload X (dk D_Rf_isQuote 51 rfl) rfl ?_
                    refine v_bipush (v := 41) X (dk D_Rf_isQuote 52 rfl) (by decide) ?_
                    refine v_icmp_eq (tgt := 120) X (dk D_Rf_isQuote 53 rfl) (by decide) (fun c106 => ?_) (fun c106 => ?_)
                    · refine v_iconst (v := 0) X (dk D_Rf_isQuote 59 rfl) (by decide) ?_
                      refine v_istore (lb := [some (.ref 1003), some (.int (nI (na r))), some (.int (nI (i + 1))), some (.int (nI (f.2.1.getD i []).length)), some (.int 0), some (.int (nI k)), some (.int ((f.2.1.getD i []).getD k 0 &&& 255))]) X (dk D_Rf_isQuote 60 rfl) (by decide) rfl ?_
                      refine v_iinc (v := nI (k + 1)) (lb := [some (.ref 1003), some (.int (nI (na r))), some (.int (nI (i + 1))), some (.int (nI (f.2.1.getD i []).length)), some (.int 0), some (.int (nI (k + 1))), some (.int ((f.2.1.getD i []).getD k 0 &&& 255))]) X (dk D_Rf_isQuote 61 rfl) rfl (nI_1 _) (by decide) rfl ?_
                      refine v_goto (tgt := 26) X (dk D_Rf_isQuote 62 rfl) (by decide) ?_
                      exact v_weak (la := [some (.ref 1003), some (.int (nI (na r))), some (.int (nI (i + 1))), some (.int (nI (f.2.1.getD i []).length)), some (.int 0), some (.int (nI (k + 1))), none]) ⟨rfl, rfl, rfl, rfl, rfl, rfl, trivial⟩ <| bad (fun z => hqt ((of_decide_eq_true z).2.2 k (by omega))) (k + 1) (by omega)
                    · refine v_iload X (dk D_Rf_isQuote 54 rfl) rfl ?_
                      refine v_bipush (v := 44) X (dk D_Rf_isQuote 55 rfl) (by decide) ?_
                      refine v_icmp_eq (tgt := 120) X (dk D_Rf_isQuote 56 rfl) (by decide) (fun c113 => ?_) (fun c113 => ?_)
                      · refine v_iconst (v := 0) X (dk D_Rf_isQuote 59 rfl) (by decide) ?_
                        refine v_istore (lb := [some (.ref 1003), some (.int (nI (na r))), some (.int (nI (i + 1))), some (.int (nI (f.2.1.getD i []).length)), some (.int 0), some (.int (nI k)), some (.int ((f.2.1.getD i []).getD k 0 &&& 255))]) X (dk D_Rf_isQuote 60 rfl) (by decide) rfl ?_
                        refine v_iinc (v := nI (k + 1)) (lb := [some (.ref 1003), some (.int (nI (na r))), some (.int (nI (i + 1))), some (.int (nI (f.2.1.getD i []).length)), some (.int 0), some (.int (nI (k + 1))), some (.int ((f.2.1.getD i []).getD k 0 &&& 255))]) X (dk D_Rf_isQuote 61 rfl) rfl (nI_1 _) (by decide) rfl ?_
                        refine v_goto (tgt := 26) X (dk D_Rf_isQuote 62 rfl) (by decide) ?_
                        exact v_weak (la := [some (.ref 1003), some (.int (nI (na r))), some (.int (nI (i + 1))), some (.int (nI (f.2.1.getD i []).length)), some (.int 0), some (.int (nI (k + 1))), none]) ⟨rfl, rfl, rfl, rfl, rfl, rfl, trivial⟩ <| bad (fun z => hqt ((of_decide_eq_true z).2.2 k (by omega))) (k + 1) (by omega)
                      · exact absurd (qtB_of (fun z => absurd c62 (by rw [if_pos z]; decide)) (fun z => absurd c70 (by rw [if_pos z]; decide)) (fun z => absurd c78 (by rw [if_pos z]; decide)) c85 c92 c99 c106 c113) hqt
  by_cases c0 : (f.2.1.getD i []).length = 0
  · refine v_aload_n X (dk D_Rf_isQuote 0 rfl) rfl ?_
    refine v_iload_n X (dk D_Rf_isQuote 1 rfl) rfl ?_
    refine v_iload_n X (dk D_Rf_isQuote 2 rfl) rfl ?_
    refine v_invV (As := [.int (nI (na r)), .int (nI (i + 1))]) (st := []) X (r_argumentSize l q (i := i) hS hC (by omega)) (dk D_Rf_isQuote 3 rfl) G_Rf_272 K_Rf_argumentSize V_Rf_argumentSize rfl rfl (hS.lt (by decide)) rfl rfl (Nat.le_of_ble_eq_true rfl) (Nat.le_of_ble_eq_true rfl) (Nat.le_of_ble_eq_true rfl) (Nat.le_of_ble_eq_true rfl) (Nat.le_of_ble_eq_true rfl) ?_
    rintro v ws ⟨rfl, hws⟩
    rw [hws]
    show Vv _ _ _ _ _ _ _ _ _ _ _ _ _ _ _ [.int (nI (f.2.1.getD i []).length)] (0, 0, g)
    refine v_istore_n (lb := [some (.ref 1003), some (.int (nI (na r))), some (.int (nI (i + 1))), some (.int (nI (f.2.1.getD i []).length)), none, none, none]) X (dk D_Rf_isQuote 4 rfl) (by decide) rfl ?_
    refine v_iload_n X (dk D_Rf_isQuote 5 rfl) rfl ?_
    refine v_if_le (tgt := 20) X (dk D_Rf_isQuote 6 rfl) (by decide) (fun _ => ?_) (fun c8 => absurd (by rw [show (f.2.1.getD i []).length = 0 by omega]; decide) c8)
    refine v_iconst (v := 0) X (dk D_Rf_isQuote 12 rfl) (by decide) ?_
    refine v_istore (lb := [some (.ref 1003), some (.int (nI (na r))), some (.int (nI (i + 1))), some (.int (nI (f.2.1.getD i []).length)), some (.int 0), none, none]) X (dk D_Rf_isQuote 13 rfl) (by decide) rfl ?_
    refine v_iconst (v := nI 0) X (dk D_Rf_isQuote 14 rfl) (by decide) ?_
    refine v_istore (lb := [some (.ref 1003), some (.int (nI (na r))), some (.int (nI (i + 1))), some (.int (nI (f.2.1.getD i []).length)), some (.int 0), some (.int (nI 0)), none]) X (dk D_Rf_isQuote 15 rfl) (by decide) rfl ?_
    exact bad (fun z => absurd (of_decide_eq_true z).1 (by omega)) 0 (by omega)
  by_cases c5 : (f.2.1.getD i []).length < 5
  · refine v_aload_n X (dk D_Rf_isQuote 0 rfl) rfl ?_
    refine v_iload_n X (dk D_Rf_isQuote 1 rfl) rfl ?_
    refine v_iload_n X (dk D_Rf_isQuote 2 rfl) rfl ?_
    refine v_invV (As := [.int (nI (na r)), .int (nI (i + 1))]) (st := []) X (r_argumentSize l q (i := i) hS hC (by omega)) (dk D_Rf_isQuote 3 rfl) G_Rf_272 K_Rf_argumentSize V_Rf_argumentSize rfl rfl (hS.lt (by decide)) rfl rfl (Nat.le_of_ble_eq_true rfl) (Nat.le_of_ble_eq_true rfl) (Nat.le_of_ble_eq_true rfl) (Nat.le_of_ble_eq_true rfl) (Nat.le_of_ble_eq_true rfl) ?_
    rintro v ws ⟨rfl, hws⟩
    rw [hws]
    show Vv _ _ _ _ _ _ _ _ _ _ _ _ _ _ _ [.int (nI (f.2.1.getD i []).length)] (0, 0, g)
    refine v_istore_n (lb := [some (.ref 1003), some (.int (nI (na r))), some (.int (nI (i + 1))), some (.int (nI (f.2.1.getD i []).length)), none, none, none]) X (dk D_Rf_isQuote 4 rfl) (by decide) rfl ?_
    refine v_iload_n X (dk D_Rf_isQuote 5 rfl) rfl ?_
    refine v_if_le (tgt := 20) X (dk D_Rf_isQuote 6 rfl) (by decide) (fun c8 => absurd c8 (nI_nle (by omega) (by omega))) (fun _ => ?_)
    refine v_iload_n X (dk D_Rf_isQuote 7 rfl) rfl ?_
    refine v_iconst (v := 5) X (dk D_Rf_isQuote 8 rfl) (by decide) ?_
    refine v_icmp_ge (tgt := 20) X (dk D_Rf_isQuote 9 rfl) (by decide) (fun c13 => absurd c13 (nI_ge (b := 5) (by omega) (by decide))) (fun _ => ?_)
    refine v_iconst (v := 1) X (dk D_Rf_isQuote 10 rfl) (by decide) ?_
    refine v_goto (tgt := 21) X (dk D_Rf_isQuote 11 rfl) (by decide) ?_
    refine v_istore (lb := [some (.ref 1003), some (.int (nI (na r))), some (.int (nI (i + 1))), some (.int (nI (f.2.1.getD i []).length)), some (.int 1), none, none]) X (dk D_Rf_isQuote 13 rfl) (by decide) rfl ?_
    refine v_iconst (v := nI 0) X (dk D_Rf_isQuote 14 rfl) (by decide) ?_
    refine v_istore (lb := [some (.ref 1003), some (.int (nI (na r))), some (.int (nI (i + 1))), some (.int (nI (f.2.1.getD i []).length)), some (.int 1), some (.int (nI 0)), none]) X (dk D_Rf_isQuote 15 rfl) (by decide) rfl ?_
    exact loop (by omega) (by omega) (f.2.1.getD i []).length 0 (by omega) (fun j hj => by omega)
  · refine v_aload_n X (dk D_Rf_isQuote 0 rfl) rfl ?_
    refine v_iload_n X (dk D_Rf_isQuote 1 rfl) rfl ?_
    refine v_iload_n X (dk D_Rf_isQuote 2 rfl) rfl ?_
    refine v_invV (As := [.int (nI (na r)), .int (nI (i + 1))]) (st := []) X (r_argumentSize l q (i := i) hS hC (by omega)) (dk D_Rf_isQuote 3 rfl) G_Rf_272 K_Rf_argumentSize V_Rf_argumentSize rfl rfl (hS.lt (by decide)) rfl rfl (Nat.le_of_ble_eq_true rfl) (Nat.le_of_ble_eq_true rfl) (Nat.le_of_ble_eq_true rfl) (Nat.le_of_ble_eq_true rfl) (Nat.le_of_ble_eq_true rfl) ?_
    rintro v ws ⟨rfl, hws⟩
    rw [hws]
    show Vv _ _ _ _ _ _ _ _ _ _ _ _ _ _ _ [.int (nI (f.2.1.getD i []).length)] (0, 0, g)
    refine v_istore_n (lb := [some (.ref 1003), some (.int (nI (na r))), some (.int (nI (i + 1))), some (.int (nI (f.2.1.getD i []).length)), none, none, none]) X (dk D_Rf_isQuote 4 rfl) (by decide) rfl ?_
    refine v_iload_n X (dk D_Rf_isQuote 5 rfl) rfl ?_
    refine v_if_le (tgt := 20) X (dk D_Rf_isQuote 6 rfl) (by decide) (fun c8 => absurd c8 (nI_nle (by omega) (by omega))) (fun _ => ?_)
    refine v_iload_n X (dk D_Rf_isQuote 7 rfl) rfl ?_
    refine v_iconst (v := 5) X (dk D_Rf_isQuote 8 rfl) (by decide) ?_
    refine v_icmp_ge (tgt := 20) X (dk D_Rf_isQuote 9 rfl) (by decide) (fun _ => ?_) (fun c13 => absurd (nI_le (a := 5) (by omega) (by omega)) c13)
    refine v_iconst (v := 0) X (dk D_Rf_isQuote 12 rfl) (by decide) ?_
    refine v_istore (lb := [some (.ref 1003), some (.int (nI (na r))), some (.int (nI (i + 1))), some (.int (nI (f.2.1.getD i []).length)), some (.int 0), none, none]) X (dk D_Rf_isQuote 13 rfl) (by decide) rfl ?_
    refine v_iconst (v := nI 0) X (dk D_Rf_isQuote 14 rfl) (by decide) ?_
    refine v_istore (lb := [some (.ref 1003), some (.int (nI (na r))), some (.int (nI (i + 1))), some (.int (nI (f.2.1.getD i []).length)), some (.int 0), some (.int (nI 0)), none]) X (dk D_Rf_isQuote 15 rfl) (by decide) rfl ?_
    exact bad (fun z => absurd (of_decide_eq_true z).2.1 (by omega)) 0 (by omega)
