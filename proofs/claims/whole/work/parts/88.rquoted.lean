/-! the reference: readQuoted, readToken -/
set_option maxHeartbeats 4000000 in
set_option maxRecDepth 100000 in
theorem r_readQuoted (l : Launch) (q : ev_T) {fu : Nat} {I : Ip} {xs op cl : List Int32} {g : mu_T} (hS : Shp g) (hI : RQ g fu I) (he : gI g 1003 2 = 0) (hX : TK g xs) (hxl : xs.length + I.1.length ≤ 32768) (hQ : QT g op cl) (hb : bgn I.1 op = true) : Ctr l q M_Rf_readQuoted 4 [.ref 1003] (0, 0, g) (fun v w => v = none ∧ rs g w.2.2 [2, 3, 4, 8, 9, 10, 11, 18] [1009] ∧ RQ w.2.2 fu (rdQ0 op cl I).2.1 ∧ gI w.2.2 1003 2 = (rdQ0 op cl I).1 ∧ (¬ (rdQ0 op cl I).1 = 0 → gI w.2.2 1003 3 = (if (rdQ0 op cl I).1 = 32 then nI (I.2.2.2 + 1) else nI ((rdQ0 op cl I).2.1.2.2.2 + 1))) ∧ TK w.2.2 (xs ++ (rdQ0 op cl I).2.2)) := by

  refine Ctr.mk (lb := [some (.ref 1003), none, none]) (by decide +kernel) (Nat.le_of_ble_eq_true rfl) rfl rfl ?_
  intro pp ee ss mm aa bb mt cd X hrt hlk hnm
  have ex : ∀ (u : mu_T) (n : Nat), n ≤ 100000 → Shp u → (n = 0 ∨ ¬ gI u 1003 2 = 0) → (rs g u [2, 3, 4, 8, 9, 10, 11, 18] [1009] ∧ RQ u fu (rdQ0 op cl I).2.1 ∧ gI u 1003 2 = (rdQ0 op cl I).1 ∧ (¬ (rdQ0 op cl I).1 = 0 → gI u 1003 3 = (if (rdQ0 op cl I).1 = 32 then nI (I.2.2.2 + 1) else nI ((rdQ0 op cl I).2.1.2.2.2 + 1))) ∧ TK u (xs ++ (rdQ0 op cl I).2.2)) → Vv pp l ee (rmT 4 0 0) ss mm aa bb mt cd 3 q (MQ bb (Qw q (fun v w => v = none ∧ rs g w.2.2 [2, 3, 4, 8, 9, 10, 11, 18] [1009] ∧ RQ w.2.2 fu (rdQ0 op cl I).2.1 ∧ gI w.2.2 1003 2 = (rdQ0 op cl I).1 ∧ (¬ (rdQ0 op cl I).1 = 0 → gI w.2.2 1003 3 = (if (rdQ0 op cl I).1 = 32 then nI (I.2.2.2 + 1) else nI ((rdQ0 op cl I).2.1.2.2.2 + 1))) ∧ TK w.2.2 (xs ++ (rdQ0 op cl I).2.2))) aa ss 0 0 (fun a => q.1 ≤ a)) 16 [some (.ref 1003), some (.int (nI (I.2.2.2 + 1))), some (.int (nI n))] [] (0, 0, u) := by
    intro u n hn hSu hor hfin
    by_cases c : n = 0
    · refine v_iload_n X (dk D_Rf_readQuoted 10 rfl) rfl ?_
      refine v_if_le (tgt := 122) X (dk D_Rf_readQuoted 11 rfl) (by decide) (fun _ => ?_) (fun c17 => absurd (by rw [show n = 0 by omega]; decide) c17)
      exact v_vret X hlk hrt (dk D_Rf_readQuoted 61 rfl) ⟨rfl, hfin⟩
    · have hee : ¬ gI u 1003 2 = 0 := hor.resolve_left c
      refine v_iload_n X (dk D_Rf_readQuoted 10 rfl) rfl ?_
      refine v_if_le (tgt := 122) X (dk D_Rf_readQuoted 11 rfl) (by decide) (fun c17 => absurd c17 (nI_nle (by omega) (by omega))) (fun _ => ?_)
      refine v_aload_n X (dk D_Rf_readQuoted 12 rfl) rfl ?_
      refine v_getI X (dk D_Rf_readQuoted 13 rfl) F_Rf_72 rfl rfl (hSu.lt (by decide)) ?_
      refine v_if_ne (tgt := 122) X (dk D_Rf_readQuoted 14 rfl) (by decide) (fun _ => ?_) (fun c24 => absurd c24 hee)
      exact v_vret X hlk hrt (dk D_Rf_readQuoted 61 rfl) ⟨rfl, hfin⟩
  have loop : ∀ (d n : Nat) (u : mu_T) (J : Ip) (ys : List Int32), J.1.length ≤ d → 0 < n → n + J.1.length ≤ 40000 → rs g u [2, 3, 4, 8, 9, 10, 11, 18] [1009] → RQ u fu J → gI u 1003 2 = 0 → TK u (xs ++ ys) → (xs ++ ys).length + J.1.length ≤ 32768 → (rdQ0 op cl I) = ((rdQ op cl d n J).1, (rdQ op cl d n J).2.1, ys ++ (rdQ op cl d n J).2.2) → Vv pp l ee (rmT 4 0 0) ss mm aa bb mt cd 3 q (MQ bb (Qw q (fun v w => v = none ∧ rs g w.2.2 [2, 3, 4, 8, 9, 10, 11, 18] [1009] ∧ RQ w.2.2 fu (rdQ0 op cl I).2.1 ∧ gI w.2.2 1003 2 = (rdQ0 op cl I).1 ∧ (¬ (rdQ0 op cl I).1 = 0 → gI w.2.2 1003 3 = (if (rdQ0 op cl I).1 = 32 then nI (I.2.2.2 + 1) else nI ((rdQ0 op cl I).2.1.2.2.2 + 1))) ∧ TK w.2.2 (xs ++ (rdQ0 op cl I).2.2))) aa ss 0 0 (fun a => q.1 ≤ a)) 16 [some (.ref 1003), some (.int (nI (I.2.2.2 + 1))), some (.int (nI n))] [] (0, 0, u) := by
    intro d
    induction d with
    | zero =>
      intro n u J ys hd hn0 hnb zu hJ heu hTK hxl hR
      have hSu := zu.S hS
      have hQu := hQ.rs zu (by decide) (by decide) (by decide) (by decide)
      have hJ32 := hJ.2.1
      have hop0 := hQu.2.2.1
      have hcl0 := hQu.2.2.2.2.1
      have nob : J.1 = [] → (rdQ0 op cl I) = (32, J, ys ++ []) → Vv pp l ee (rmT 4 0 0) ss mm aa bb mt cd 3 q (MQ bb (Qw q (fun v w => v = none ∧ rs g w.2.2 [2, 3, 4, 8, 9, 10, 11, 18] [1009] ∧ RQ w.2.2 fu (rdQ0 op cl I).2.1 ∧ gI w.2.2 1003 2 = (rdQ0 op cl I).1 ∧ (¬ (rdQ0 op cl I).1 = 0 → gI w.2.2 1003 3 = (if (rdQ0 op cl I).1 = 32 then nI (I.2.2.2 + 1) else nI ((rdQ0 op cl I).2.1.2.2.2 + 1))) ∧ TK w.2.2 (xs ++ (rdQ0 op cl I).2.2))) aa ss 0 0 (fun a => q.1 ≤ a)) 16 [some (.ref 1003), some (.int (nI (I.2.2.2 + 1))), some (.int (nI n))] [] (0, 0, u) := by
        intro hJe hR
        have hno : ∀ w, w = (xI (xI u 1003 2 32) 1003 3 (nI (I.2.2.2 + 1))) → (rs g w [2, 3, 4, 8, 9, 10, 11, 18] [1009] ∧ RQ w fu (rdQ0 op cl I).2.1 ∧ gI w 1003 2 = (rdQ0 op cl I).1 ∧ (¬ (rdQ0 op cl I).1 = 0 → gI w 1003 3 = (if (rdQ0 op cl I).1 = 32 then nI (I.2.2.2 + 1) else nI ((rdQ0 op cl I).2.1.2.2.2 + 1))) ∧ TK w (xs ++ (rdQ0 op cl I).2.2)) := by
          intro w hw
          rw [hw, hR]
          have y0 : rs u (xI (xI u 1003 2 32) 1003 3 (nI (I.2.2.2 + 1))) [2, 3] [] := ((rs.rf u _ _).fI (by decide)).fI (by decide)
          exact ⟨zu.tr (y0.mono (by decide) (by decide)), hJ.rs y0 (by decide) (by decide), (gI_nk (by decide)).trans (gI_eq _ _ _ _), fun _ => by rw [if_pos rfl]; exact gI_eq _ _ _ _, by show TK _ (xs ++ (ys ++ [])); rw [List.append_nil]; exact hTK.rs y0 (by decide) (by decide)⟩
        refine v_iload_n X (dk D_Rf_readQuoted 10 rfl) rfl ?_
        refine v_if_le (tgt := 122) X (dk D_Rf_readQuoted 11 rfl) (by decide) (fun c17 => absurd c17 (nI_nle (by omega) (by omega))) (fun _ => ?_)
        refine v_aload_n X (dk D_Rf_readQuoted 12 rfl) rfl ?_
        refine v_getI X (dk D_Rf_readQuoted 13 rfl) F_Rf_72 rfl rfl (hSu.lt (by decide)) ?_
        refine v_if_ne (tgt := 122) X (dk D_Rf_readQuoted 14 rfl) (by decide) (fun c24 => absurd heu c24) (fun _ => ?_)
        refine v_aload_n X (dk D_Rf_readQuoted 15 rfl) rfl ?_
        refine v_iconst (v := nI 0) X (dk D_Rf_readQuoted 16 rfl) (by decide) ?_
        refine v_invV (As := [.int (nI 0)]) (st := []) X (r_peek l q (k := 0) hSu hJ (by decide)) (dk D_Rf_readQuoted 17 rfl) G_Rf_101 K_Rf_peek V_Rf_peek rfl rfl (hSu.lt (by decide)) rfl rfl (Nat.le_of_ble_eq_true rfl) (Nat.le_of_ble_eq_true rfl) (Nat.le_of_ble_eq_true rfl) (Nat.le_of_ble_eq_true rfl) (Nat.le_of_ble_eq_true rfl) ?_
        rintro v ws ⟨rfl, hws⟩
        rw [hws]
        show Vv _ _ _ _ _ _ _ _ _ _ _ _ _ _ _ [.int (atL J.1 (nI 0))] (0, 0, u)
        refine v_if_ge (tgt := 45) X (dk D_Rf_readQuoted 18 rfl) (by decide) (fun c32 => absurd c32 (fun z => absurd ((at0_neg hJ32).mp z) (fun y => y hJe))) (fun _ => ?_)
        refine v_aload_n X (dk D_Rf_readQuoted 19 rfl) rfl ?_
        refine v_bipush (v := 32) X (dk D_Rf_readQuoted 20 rfl) (by decide) ?_
        refine v_iload_n X (dk D_Rf_readQuoted 21 rfl) rfl ?_
        refine v_invV (As := [.int 32, .int (nI (I.2.2.2 + 1))]) (st := []) X (r_fail l q (n := 32) (ln := nI (I.2.2.2 + 1)) hSu) (dk D_Rf_readQuoted 22 rfl) G_Rf_97 K_Rf_fail V_Rf_fail rfl rfl (hSu.lt (by decide)) rfl rfl (Nat.le_of_ble_eq_true rfl) (Nat.le_of_ble_eq_true rfl) (Nat.le_of_ble_eq_true rfl) (Nat.le_of_ble_eq_true rfl) (Nat.le_of_ble_eq_true rfl) ?_
        rintro v w1 ⟨rfl, hw⟩
        rw [if_pos heu] at hw
        rw [hw]
        show Vv _ _ _ _ _ _ _ _ _ _ _ _ _ _ _ [] (0, 0, xI (xI u 1003 2 32) 1003 3 (nI (I.2.2.2 + 1)))
        refine v_goto (tgt := 16) X (dk D_Rf_readQuoted 23 rfl) (by decide) ?_
        exact ex _ n (by omega) (hSu.sm (((sm.rf u [1003]).xI (by simp)).xI (by simp))) (Or.inr (by rw [gI_nk (by decide), gI_eq]; decide)) (hno _ rfl)
      exact nob (List.length_eq_zero_iff.mp (by omega)) hR
    | succ d ih =>
      intro n u J ys hd hn0 hnb zu hJ heu hTK hxl hR
      have hSu := zu.S hS
      have hQu := hQ.rs zu (by decide) (by decide) (by decide) (by decide)
      have hJ32 := hJ.2.1
      have hop0 := hQu.2.2.1
      have hcl0 := hQu.2.2.2.2.1
      have nob : J.1 = [] → (rdQ0 op cl I) = (32, J, ys ++ []) → Vv pp l ee (rmT 4 0 0) ss mm aa bb mt cd 3 q (MQ bb (Qw q (fun v w => v = none ∧ rs g w.2.2 [2, 3, 4, 8, 9, 10, 11, 18] [1009] ∧ RQ w.2.2 fu (rdQ0 op cl I).2.1 ∧ gI w.2.2 1003 2 = (rdQ0 op cl I).1 ∧ (¬ (rdQ0 op cl I).1 = 0 → gI w.2.2 1003 3 = (if (rdQ0 op cl I).1 = 32 then nI (I.2.2.2 + 1) else nI ((rdQ0 op cl I).2.1.2.2.2 + 1))) ∧ TK w.2.2 (xs ++ (rdQ0 op cl I).2.2))) aa ss 0 0 (fun a => q.1 ≤ a)) 16 [some (.ref 1003), some (.int (nI (I.2.2.2 + 1))), some (.int (nI n))] [] (0, 0, u) := by
        intro hJe hR
        have hno : ∀ w, w = (xI (xI u 1003 2 32) 1003 3 (nI (I.2.2.2 + 1))) → (rs g w [2, 3, 4, 8, 9, 10, 11, 18] [1009] ∧ RQ w fu (rdQ0 op cl I).2.1 ∧ gI w 1003 2 = (rdQ0 op cl I).1 ∧ (¬ (rdQ0 op cl I).1 = 0 → gI w 1003 3 = (if (rdQ0 op cl I).1 = 32 then nI (I.2.2.2 + 1) else nI ((rdQ0 op cl I).2.1.2.2.2 + 1))) ∧ TK w (xs ++ (rdQ0 op cl I).2.2)) := by
          intro w hw
          rw [hw, hR]
          have y0 : rs u (xI (xI u 1003 2 32) 1003 3 (nI (I.2.2.2 + 1))) [2, 3] [] := ((rs.rf u _ _).fI (by decide)).fI (by decide)
          exact ⟨zu.tr (y0.mono (by decide) (by decide)), hJ.rs y0 (by decide) (by decide), (gI_nk (by decide)).trans (gI_eq _ _ _ _), fun _ => by rw [if_pos rfl]; exact gI_eq _ _ _ _, by show TK _ (xs ++ (ys ++ [])); rw [List.append_nil]; exact hTK.rs y0 (by decide) (by decide)⟩
        refine v_iload_n X (dk D_Rf_readQuoted 10 rfl) rfl ?_
        refine v_if_le (tgt := 122) X (dk D_Rf_readQuoted 11 rfl) (by decide) (fun c17 => absurd c17 (nI_nle (by omega) (by omega))) (fun _ => ?_)
        refine v_aload_n X (dk D_Rf_readQuoted 12 rfl) rfl ?_
        refine v_getI X (dk D_Rf_readQuoted 13 rfl) F_Rf_72 rfl rfl (hSu.lt (by decide)) ?_
        refine v_if_ne (tgt := 122) X (dk D_Rf_readQuoted 14 rfl) (by decide) (fun c24 => absurd heu c24) (fun _ => ?_)
        refine v_aload_n X (dk D_Rf_readQuoted 15 rfl) rfl ?_
        refine v_iconst (v := nI 0) X (dk D_Rf_readQuoted 16 rfl) (by decide) ?_
        refine v_invV (As := [.int (nI 0)]) (st := []) X (r_peek l q (k := 0) hSu hJ (by decide)) (dk D_Rf_readQuoted 17 rfl) G_Rf_101 K_Rf_peek V_Rf_peek rfl rfl (hSu.lt (by decide)) rfl rfl (Nat.le_of_ble_eq_true rfl) (Nat.le_of_ble_eq_true rfl) (Nat.le_of_ble_eq_true rfl) (Nat.le_of_ble_eq_true rfl) (Nat.le_of_ble_eq_true rfl) ?_
        rintro v ws ⟨rfl, hws⟩
        rw [hws]
        show Vv _ _ _ _ _ _ _ _ _ _ _ _ _ _ _ [.int (atL J.1 (nI 0))] (0, 0, u)
        refine v_if_ge (tgt := 45) X (dk D_Rf_readQuoted 18 rfl) (by decide) (fun c32 => absurd c32 (fun z => absurd ((at0_neg hJ32).mp z) (fun y => y hJe))) (fun _ => ?_)
        refine v_aload_n X (dk D_Rf_readQuoted 19 rfl) rfl ?_
        refine v_bipush (v := 32) X (dk D_Rf_readQuoted 20 rfl) (by decide) ?_
        refine v_iload_n X (dk D_Rf_readQuoted 21 rfl) rfl ?_
        refine v_invV (As := [.int 32, .int (nI (I.2.2.2 + 1))]) (st := []) X (r_fail l q (n := 32) (ln := nI (I.2.2.2 + 1)) hSu) (dk D_Rf_readQuoted 22 rfl) G_Rf_97 K_Rf_fail V_Rf_fail rfl rfl (hSu.lt (by decide)) rfl rfl (Nat.le_of_ble_eq_true rfl) (Nat.le_of_ble_eq_true rfl) (Nat.le_of_ble_eq_true rfl) (Nat.le_of_ble_eq_true rfl) (Nat.le_of_ble_eq_true rfl) ?_
        rintro v w1 ⟨rfl, hw⟩
        rw [if_pos heu] at hw
        rw [hw]
        show Vv _ _ _ _ _ _ _ _ _ _ _ _ _ _ _ [] (0, 0, xI (xI u 1003 2 32) 1003 3 (nI (I.2.2.2 + 1)))
        refine v_goto (tgt := 16) X (dk D_Rf_readQuoted 23 rfl) (by decide) ?_
        exact ex _ n (by omega) (hSu.sm (((sm.rf u [1003]).xI (by simp)).xI (by simp))) (Or.inr (by rw [gI_nk (by decide), gI_eq]; decide)) (hno _ rfl)
      have c1 : ¬ J.1 = [] → bgn J.1 cl = true → n = 1 → (rdQ0 op cl I) = (if (tkL cl.length J).1 = true then 0 else 31, (tkL cl.length J).2.1, ys ++ []) → Vv pp l ee (rmT 4 0 0) ss mm aa bb mt cd 3 q (MQ bb (Qw q (fun v w => v = none ∧ rs g w.2.2 [2, 3, 4, 8, 9, 10, 11, 18] [1009] ∧ RQ w.2.2 fu (rdQ0 op cl I).2.1 ∧ gI w.2.2 1003 2 = (rdQ0 op cl I).1 ∧ (¬ (rdQ0 op cl I).1 = 0 → gI w.2.2 1003 3 = (if (rdQ0 op cl I).1 = 32 then nI (I.2.2.2 + 1) else nI ((rdQ0 op cl I).2.1.2.2.2 + 1))) ∧ TK w.2.2 (xs ++ (rdQ0 op cl I).2.2))) aa ss 0 0 (fun a => q.1 ≤ a)) 16 [some (.ref 1003), some (.int (nI (I.2.2.2 + 1))), some (.int (nI n))] [] (0, 0, u) := by
        intro hJe hcl hn1 hR2
        subst hn1
        refine v_iload_n X (dk D_Rf_readQuoted 10 rfl) rfl ?_
        refine v_if_le (tgt := 122) X (dk D_Rf_readQuoted 11 rfl) (by decide) (fun c17 => absurd c17 (nI_nle (by omega) (by omega))) (fun _ => ?_)
        refine v_aload_n X (dk D_Rf_readQuoted 12 rfl) rfl ?_
        refine v_getI X (dk D_Rf_readQuoted 13 rfl) F_Rf_72 rfl rfl (hSu.lt (by decide)) ?_
        refine v_if_ne (tgt := 122) X (dk D_Rf_readQuoted 14 rfl) (by decide) (fun c24 => absurd heu c24) (fun _ => ?_)
        refine v_aload_n X (dk D_Rf_readQuoted 15 rfl) rfl ?_
        refine v_iconst (v := nI 0) X (dk D_Rf_readQuoted 16 rfl) (by decide) ?_
        refine v_invV (As := [.int (nI 0)]) (st := []) X (r_peek l q (k := 0) hSu hJ (by decide)) (dk D_Rf_readQuoted 17 rfl) G_Rf_101 K_Rf_peek V_Rf_peek rfl rfl (hSu.lt (by decide)) rfl rfl (Nat.le_of_ble_eq_true rfl) (Nat.le_of_ble_eq_true rfl) (Nat.le_of_ble_eq_true rfl) (Nat.le_of_ble_eq_true rfl) (Nat.le_of_ble_eq_true rfl) ?_
        rintro v ws ⟨rfl, hws⟩
        rw [hws]
        show Vv _ _ _ _ _ _ _ _ _ _ _ _ _ _ _ [.int (atL J.1 (nI 0))] (0, 0, u)
        refine v_if_ge (tgt := 45) X (dk D_Rf_readQuoted 18 rfl) (by decide) (fun _ => ?_) (fun c32 => absurd ((at0_neg hJ32).mpr hJe) c32)
        refine v_aload_n X (dk D_Rf_readQuoted 24 rfl) rfl ?_
        refine v_aload_n X (dk D_Rf_readQuoted 25 rfl) rfl ?_
        refine v_getF X (dk D_Rf_readQuoted 26 rfl) F_Rf_24 rfl rfl (hSu.lt (by decide)) (hSu.2 1003 14) ?_
        refine v_aload_n X (dk D_Rf_readQuoted 27 rfl) rfl ?_
        refine v_getI X (dk D_Rf_readQuoted 28 rfl) F_Rf_119 rfl rfl (hSu.lt (by decide)) ?_
        rw [hQu.2.1]
        refine v_invV (As := [.ref 1008, .int (nI cl.length)]) (st := []) X (r_isAhead l q (r := 1008) (ys := cl) hSu hJ rfl (hSu.lt (by decide)) hQu.2.2.2.2.1 hQu.2.2.2.2.2.1 hQu.2.2.2.2.2.2.2) (dk D_Rf_readQuoted 29 rfl) G_Rf_122 K_Rf_isAhead V_Rf_isAhead rfl rfl (hSu.lt (by decide)) rfl rfl (Nat.le_of_ble_eq_true rfl) (Nat.le_of_ble_eq_true rfl) (Nat.le_of_ble_eq_true rfl) (Nat.le_of_ble_eq_true rfl) (Nat.le_of_ble_eq_true rfl) ?_
        rintro v ws ⟨rfl, hws⟩
        rw [hws]
        show Vv _ _ _ _ _ _ _ _ _ _ _ _ _ _ _ [.int (if bgn J.1 cl = true then 1 else 0)] (0, 0, u)
        refine v_if_eq (tgt := 83) X (dk D_Rf_readQuoted 30 rfl) (by decide) (fun c57 => absurd c57 (by rw [if_pos hcl]; decide)) (fun _ => ?_)
        refine v_iinc (v := nI 0) (lb := [some (.ref 1003), some (.int (nI (I.2.2.2 + 1))), some (.int (nI 0))]) X (dk D_Rf_readQuoted 31 rfl) rfl (by decide) (by decide) rfl ?_
        refine v_aload_n X (dk D_Rf_readQuoted 32 rfl) rfl ?_
        refine v_aload_n X (dk D_Rf_readQuoted 33 rfl) rfl ?_
        refine v_getI X (dk D_Rf_readQuoted 34 rfl) F_Rf_119 rfl rfl (hSu.lt (by decide)) ?_
        rw [hQu.2.1]
        refine v_iload_n X (dk D_Rf_readQuoted 35 rfl) rfl ?_
        refine v_if_le (tgt := 76) X (dk D_Rf_readQuoted 36 rfl) (by decide) (fun _ => ?_) (fun c69 => absurd (by decide) c69)
        refine v_iconst (v := 0) X (dk D_Rf_readQuoted 39 rfl) (by decide) ?_
        refine v_invV (As := [.int (nI cl.length), .int 0]) (st := []) X (r_pass l q (n := cl.length) (pt := false) hSu hJ heu hTK hxl (bgn_len hJ32 hQu.2.2.2.2.2.1 hcl)) (dk D_Rf_readQuoted 40 rfl) G_Rf_115 K_Rf_pass V_Rf_pass rfl rfl (hSu.lt (by decide)) rfl rfl (Nat.le_of_ble_eq_true rfl) (Nat.le_of_ble_eq_true rfl) (Nat.le_of_ble_eq_true rfl) (Nat.le_of_ble_eq_true rfl) (Nat.le_of_ble_eq_true rfl) ?_
        rintro v w1 ⟨rfl, a1, a2, a3, a4, a5⟩
        show Vv _ _ _ _ _ _ _ _ _ _ _ _ _ _ _ [] (0, 0, w1.2.2)
        refine v_goto (tgt := 16) X (dk D_Rf_readQuoted 41 rfl) (by decide) ?_
        exact ex w1.2.2 0 (by omega) (a1.S hSu) (Or.inl rfl) ⟨zu.tr a1, by rw [hR2]; exact a2, by rw [hR2]; exact a3, by rw [hR2]; intro hne; rw [if_neg (if_32 (by decide) (by decide))]; exact a4 (fun z => hne (if_pos z)), by rw [hR2]; show TK _ (xs ++ (ys ++ [])); rw [List.append_nil]; have := a5; rw [show ktL false (tkL cl.length J).2.2 = [] from rfl, List.append_nil] at this; exact this⟩
      by_cases hJe : J.1 = []
      · exact nob hJe (by rw [hR, rdQ, if_pos hJe])
      have gclose : bgn J.1 cl = true → 2 ≤ n → (rdQ0 op cl I) = (if (tkL cl.length J).1 = true then ((rdQ op cl d (n - 1) (tkL cl.length J).2.1).1, (rdQ op cl d (n - 1) (tkL cl.length J).2.1).2.1, ys ++ ((tkL cl.length J).2.2 ++ (rdQ op cl d (n - 1) (tkL cl.length J).2.1).2.2)) else (31, (tkL cl.length J).2.1, ys ++ (tkL cl.length J).2.2)) → Vv pp l ee (rmT 4 0 0) ss mm aa bb mt cd 3 q (MQ bb (Qw q (fun v w => v = none ∧ rs g w.2.2 [2, 3, 4, 8, 9, 10, 11, 18] [1009] ∧ RQ w.2.2 fu (rdQ0 op cl I).2.1 ∧ gI w.2.2 1003 2 = (rdQ0 op cl I).1 ∧ (¬ (rdQ0 op cl I).1 = 0 → gI w.2.2 1003 3 = (if (rdQ0 op cl I).1 = 32 then nI (I.2.2.2 + 1) else nI ((rdQ0 op cl I).2.1.2.2.2 + 1))) ∧ TK w.2.2 (xs ++ (rdQ0 op cl I).2.2))) aa ss 0 0 (fun a => q.1 ≤ a)) 16 [some (.ref 1003), some (.int (nI (I.2.2.2 + 1))), some (.int (nI n))] [] (0, 0, u) := by
        intro hcl hn2 hR
        refine v_iload_n X (dk D_Rf_readQuoted 10 rfl) rfl ?_
        refine v_if_le (tgt := 122) X (dk D_Rf_readQuoted 11 rfl) (by decide) (fun c17 => absurd c17 (nI_nle (by omega) (by omega))) (fun _ => ?_)
        refine v_aload_n X (dk D_Rf_readQuoted 12 rfl) rfl ?_
        refine v_getI X (dk D_Rf_readQuoted 13 rfl) F_Rf_72 rfl rfl (hSu.lt (by decide)) ?_
        refine v_if_ne (tgt := 122) X (dk D_Rf_readQuoted 14 rfl) (by decide) (fun c24 => absurd heu c24) (fun _ => ?_)
        refine v_aload_n X (dk D_Rf_readQuoted 15 rfl) rfl ?_
        refine v_iconst (v := nI 0) X (dk D_Rf_readQuoted 16 rfl) (by decide) ?_
        refine v_invV (As := [.int (nI 0)]) (st := []) X (r_peek l q (k := 0) hSu hJ (by decide)) (dk D_Rf_readQuoted 17 rfl) G_Rf_101 K_Rf_peek V_Rf_peek rfl rfl (hSu.lt (by decide)) rfl rfl (Nat.le_of_ble_eq_true rfl) (Nat.le_of_ble_eq_true rfl) (Nat.le_of_ble_eq_true rfl) (Nat.le_of_ble_eq_true rfl) (Nat.le_of_ble_eq_true rfl) ?_
        rintro v ws ⟨rfl, hws⟩
        rw [hws]
        show Vv _ _ _ _ _ _ _ _ _ _ _ _ _ _ _ [.int (atL J.1 (nI 0))] (0, 0, u)
        refine v_if_ge (tgt := 45) X (dk D_Rf_readQuoted 18 rfl) (by decide) (fun _ => ?_) (fun c32 => absurd ((at0_neg hJ32).mpr hJe) c32)
        refine v_aload_n X (dk D_Rf_readQuoted 24 rfl) rfl ?_
        refine v_aload_n X (dk D_Rf_readQuoted 25 rfl) rfl ?_
        refine v_getF X (dk D_Rf_readQuoted 26 rfl) F_Rf_24 rfl rfl (hSu.lt (by decide)) (hSu.2 1003 14) ?_
        refine v_aload_n X (dk D_Rf_readQuoted 27 rfl) rfl ?_
        refine v_getI X (dk D_Rf_readQuoted 28 rfl) F_Rf_119 rfl rfl (hSu.lt (by decide)) ?_
        rw [hQu.2.1]
        refine v_invV (As := [.ref 1008, .int (nI cl.length)]) (st := []) X (r_isAhead l q (r := 1008) (ys := cl) hSu hJ rfl (hSu.lt (by decide)) hQu.2.2.2.2.1 hQu.2.2.2.2.2.1 hQu.2.2.2.2.2.2.2) (dk D_Rf_readQuoted 29 rfl) G_Rf_122 K_Rf_isAhead V_Rf_isAhead rfl rfl (hSu.lt (by decide)) rfl rfl (Nat.le_of_ble_eq_true rfl) (Nat.le_of_ble_eq_true rfl) (Nat.le_of_ble_eq_true rfl) (Nat.le_of_ble_eq_true rfl) (Nat.le_of_ble_eq_true rfl) ?_
        rintro v ws ⟨rfl, hws⟩
        rw [hws]
        show Vv _ _ _ _ _ _ _ _ _ _ _ _ _ _ _ [.int (if bgn J.1 cl = true then 1 else 0)] (0, 0, u)
        refine v_if_eq (tgt := 83) X (dk D_Rf_readQuoted 30 rfl) (by decide) (fun c57 => absurd c57 (by rw [if_pos hcl]; decide)) (fun _ => ?_)
        refine v_iinc (v := nI (n - 1)) (lb := [some (.ref 1003), some (.int (nI (I.2.2.2 + 1))), some (.int (nI (n - 1)))]) X (dk D_Rf_readQuoted 31 rfl) rfl (by show nI n + (-1) = nI (n - 1); rw [← Int32.sub_eq_add_neg]; exact pk_sub (b := 1) (by omega)) (by decide) rfl ?_
        refine v_aload_n X (dk D_Rf_readQuoted 32 rfl) rfl ?_
        refine v_aload_n X (dk D_Rf_readQuoted 33 rfl) rfl ?_
        refine v_getI X (dk D_Rf_readQuoted 34 rfl) F_Rf_119 rfl rfl (hSu.lt (by decide)) ?_
        rw [hQu.2.1]
        refine v_iload_n X (dk D_Rf_readQuoted 35 rfl) rfl ?_
        refine v_if_le (tgt := 76) X (dk D_Rf_readQuoted 36 rfl) (by decide) (fun c69 => absurd c69 (nI_nle (by omega) (by omega))) (fun _ => ?_)
        refine v_iconst (v := 1) X (dk D_Rf_readQuoted 37 rfl) (by decide) ?_
        refine v_goto (tgt := 77) X (dk D_Rf_readQuoted 38 rfl) (by decide) ?_
        refine v_invV (As := [.int (nI cl.length), .int 1]) (st := []) X (r_pass l q (n := cl.length) (pt := true) hSu hJ heu hTK hxl (bgn_len hJ32 hQu.2.2.2.2.2.1 hcl)) (dk D_Rf_readQuoted 40 rfl) G_Rf_115 K_Rf_pass V_Rf_pass rfl rfl (hSu.lt (by decide)) rfl rfl (Nat.le_of_ble_eq_true rfl) (Nat.le_of_ble_eq_true rfl) (Nat.le_of_ble_eq_true rfl) (Nat.le_of_ble_eq_true rfl) (Nat.le_of_ble_eq_true rfl) ?_
        rintro v w1 ⟨rfl, a1, a2, a3, a4, a5⟩
        show Vv _ _ _ _ _ _ _ _ _ _ _ _ _ _ _ [] (0, 0, w1.2.2)
        refine v_goto (tgt := 16) X (dk D_Rf_readQuoted 41 rfl) (by decide) ?_
        have hSw := a1.S hSu
        rw [show ktL true (tkL cl.length J).2.2 = (tkL cl.length J).2.2 from rfl, List.append_assoc] at a5
        have htl := tkL_len cl.length J
        by_cases hok : (tkL cl.length J).1 = true
        · rw [if_pos hok] at a3
          have hlm := tkL_ok hok
          exact ih (n - 1) w1.2.2 (tkL cl.length J).2.1 (ys ++ (tkL cl.length J).2.2) (by omega) (by omega) (by omega) (zu.tr a1) a2 a3 a5 (by rw [← List.append_assoc, List.length_append]; omega) (by rw [hR, if_pos hok, List.append_assoc])
        · rw [if_neg hok] at a3
          exact ex w1.2.2 (n - 1) (by omega) hSw (Or.inr (by rw [a3]; decide)) ⟨zu.tr a1, by rw [hR, if_neg hok]; exact a2, by rw [hR, if_neg hok]; exact a3, fun _ => by rw [hR, if_neg hok]; exact a4 hok, by rw [hR, if_neg hok]; exact a5⟩
      have gopen : ¬ bgn J.1 cl = true → bgn J.1 op = true → (rdQ0 op cl I) = (if (tkL op.length J).1 = true then ((rdQ op cl d (n + 1) (tkL op.length J).2.1).1, (rdQ op cl d (n + 1) (tkL op.length J).2.1).2.1, ys ++ ((tkL op.length J).2.2 ++ (rdQ op cl d (n + 1) (tkL op.length J).2.1).2.2)) else (31, (tkL op.length J).2.1, ys ++ (tkL op.length J).2.2)) → Vv pp l ee (rmT 4 0 0) ss mm aa bb mt cd 3 q (MQ bb (Qw q (fun v w => v = none ∧ rs g w.2.2 [2, 3, 4, 8, 9, 10, 11, 18] [1009] ∧ RQ w.2.2 fu (rdQ0 op cl I).2.1 ∧ gI w.2.2 1003 2 = (rdQ0 op cl I).1 ∧ (¬ (rdQ0 op cl I).1 = 0 → gI w.2.2 1003 3 = (if (rdQ0 op cl I).1 = 32 then nI (I.2.2.2 + 1) else nI ((rdQ0 op cl I).2.1.2.2.2 + 1))) ∧ TK w.2.2 (xs ++ (rdQ0 op cl I).2.2))) aa ss 0 0 (fun a => q.1 ≤ a)) 16 [some (.ref 1003), some (.int (nI (I.2.2.2 + 1))), some (.int (nI n))] [] (0, 0, u) := by
        intro hcl hop hR
        refine v_iload_n X (dk D_Rf_readQuoted 10 rfl) rfl ?_
        refine v_if_le (tgt := 122) X (dk D_Rf_readQuoted 11 rfl) (by decide) (fun c17 => absurd c17 (nI_nle (by omega) (by omega))) (fun _ => ?_)
        refine v_aload_n X (dk D_Rf_readQuoted 12 rfl) rfl ?_
        refine v_getI X (dk D_Rf_readQuoted 13 rfl) F_Rf_72 rfl rfl (hSu.lt (by decide)) ?_
        refine v_if_ne (tgt := 122) X (dk D_Rf_readQuoted 14 rfl) (by decide) (fun c24 => absurd heu c24) (fun _ => ?_)
        refine v_aload_n X (dk D_Rf_readQuoted 15 rfl) rfl ?_
        refine v_iconst (v := nI 0) X (dk D_Rf_readQuoted 16 rfl) (by decide) ?_
        refine v_invV (As := [.int (nI 0)]) (st := []) X (r_peek l q (k := 0) hSu hJ (by decide)) (dk D_Rf_readQuoted 17 rfl) G_Rf_101 K_Rf_peek V_Rf_peek rfl rfl (hSu.lt (by decide)) rfl rfl (Nat.le_of_ble_eq_true rfl) (Nat.le_of_ble_eq_true rfl) (Nat.le_of_ble_eq_true rfl) (Nat.le_of_ble_eq_true rfl) (Nat.le_of_ble_eq_true rfl) ?_
        rintro v ws ⟨rfl, hws⟩
        rw [hws]
        show Vv _ _ _ _ _ _ _ _ _ _ _ _ _ _ _ [.int (atL J.1 (nI 0))] (0, 0, u)
        refine v_if_ge (tgt := 45) X (dk D_Rf_readQuoted 18 rfl) (by decide) (fun _ => ?_) (fun c32 => absurd ((at0_neg hJ32).mpr hJe) c32)
        refine v_aload_n X (dk D_Rf_readQuoted 24 rfl) rfl ?_
        refine v_aload_n X (dk D_Rf_readQuoted 25 rfl) rfl ?_
        refine v_getF X (dk D_Rf_readQuoted 26 rfl) F_Rf_24 rfl rfl (hSu.lt (by decide)) (hSu.2 1003 14) ?_
        refine v_aload_n X (dk D_Rf_readQuoted 27 rfl) rfl ?_
        refine v_getI X (dk D_Rf_readQuoted 28 rfl) F_Rf_119 rfl rfl (hSu.lt (by decide)) ?_
        rw [hQu.2.1]
        refine v_invV (As := [.ref 1008, .int (nI cl.length)]) (st := []) X (r_isAhead l q (r := 1008) (ys := cl) hSu hJ rfl (hSu.lt (by decide)) hQu.2.2.2.2.1 hQu.2.2.2.2.2.1 hQu.2.2.2.2.2.2.2) (dk D_Rf_readQuoted 29 rfl) G_Rf_122 K_Rf_isAhead V_Rf_isAhead rfl rfl (hSu.lt (by decide)) rfl rfl (Nat.le_of_ble_eq_true rfl) (Nat.le_of_ble_eq_true rfl) (Nat.le_of_ble_eq_true rfl) (Nat.le_of_ble_eq_true rfl) (Nat.le_of_ble_eq_true rfl) ?_
        rintro v ws ⟨rfl, hws⟩
        rw [hws]
        show Vv _ _ _ _ _ _ _ _ _ _ _ _ _ _ _ [.int (if bgn J.1 cl = true then 1 else 0)] (0, 0, u)
        refine v_if_eq (tgt := 83) X (dk D_Rf_readQuoted 30 rfl) (by decide) (fun _ => ?_) (fun c57 => absurd (if_neg hcl) c57)
        refine v_aload_n X (dk D_Rf_readQuoted 42 rfl) rfl ?_
        refine v_aload_n X (dk D_Rf_readQuoted 43 rfl) rfl ?_
        refine v_getF X (dk D_Rf_readQuoted 44 rfl) F_Rf_20 rfl rfl (hSu.lt (by decide)) (hSu.2 1003 12) ?_
        refine v_aload_n X (dk D_Rf_readQuoted 45 rfl) rfl ?_
        refine v_getI X (dk D_Rf_readQuoted 46 rfl) F_Rf_112 rfl rfl (hSu.lt (by decide)) ?_
        rw [hQu.1]
        refine v_invV (As := [.ref 1007, .int (nI op.length)]) (st := []) X (r_isAhead l q (r := 1007) (ys := op) hSu hJ rfl (hSu.lt (by decide)) hQu.2.2.1 hQu.2.2.2.1 hQu.2.2.2.2.2.2.1) (dk D_Rf_readQuoted 47 rfl) G_Rf_122 K_Rf_isAhead V_Rf_isAhead rfl rfl (hSu.lt (by decide)) rfl rfl (Nat.le_of_ble_eq_true rfl) (Nat.le_of_ble_eq_true rfl) (Nat.le_of_ble_eq_true rfl) (Nat.le_of_ble_eq_true rfl) (Nat.le_of_ble_eq_true rfl) ?_
        rintro v ws ⟨rfl, hws⟩
        rw [hws]
        show Vv _ _ _ _ _ _ _ _ _ _ _ _ _ _ _ [.int (if bgn J.1 op = true then 1 else 0)] (0, 0, u)
        refine v_if_eq (tgt := 113) X (dk D_Rf_readQuoted 48 rfl) (by decide) (fun c95 => absurd c95 (by rw [if_pos hop]; decide)) (fun _ => ?_)
        refine v_iinc (v := nI (n + 1)) (lb := [some (.ref 1003), some (.int (nI (I.2.2.2 + 1))), some (.int (nI (n + 1)))]) X (dk D_Rf_readQuoted 49 rfl) rfl (nI_1 n) (by decide) rfl ?_
        refine v_aload_n X (dk D_Rf_readQuoted 50 rfl) rfl ?_
        refine v_aload_n X (dk D_Rf_readQuoted 51 rfl) rfl ?_
        refine v_getI X (dk D_Rf_readQuoted 52 rfl) F_Rf_112 rfl rfl (hSu.lt (by decide)) ?_
        rw [hQu.1]
        refine v_iconst (v := 1) X (dk D_Rf_readQuoted 53 rfl) (by decide) ?_
        refine v_invV (As := [.int (nI op.length), .int 1]) (st := []) X (r_pass l q (n := op.length) (pt := true) hSu hJ heu hTK hxl (bgn_len hJ32 hQu.2.2.2.1 hop)) (dk D_Rf_readQuoted 54 rfl) G_Rf_115 K_Rf_pass V_Rf_pass rfl rfl (hSu.lt (by decide)) rfl rfl (Nat.le_of_ble_eq_true rfl) (Nat.le_of_ble_eq_true rfl) (Nat.le_of_ble_eq_true rfl) (Nat.le_of_ble_eq_true rfl) (Nat.le_of_ble_eq_true rfl) ?_
        rintro v w1 ⟨rfl, a1, a2, a3, a4, a5⟩
        show Vv _ _ _ _ _ _ _ _ _ _ _ _ _ _ _ [] (0, 0, w1.2.2)
        refine v_goto (tgt := 16) X (dk D_Rf_readQuoted 55 rfl) (by decide) ?_
        have hSw := a1.S hSu
        rw [show ktL true (tkL op.length J).2.2 = (tkL op.length J).2.2 from rfl, List.append_assoc] at a5
        have htl := tkL_len op.length J
        by_cases hok : (tkL op.length J).1 = true
        · rw [if_pos hok] at a3
          have hlm := tkL_ok hok
          exact ih (n + 1) w1.2.2 (tkL op.length J).2.1 (ys ++ (tkL op.length J).2.2) (by omega) (by omega) (by omega) (zu.tr a1) a2 a3 a5 (by rw [← List.append_assoc, List.length_append]; omega) (by rw [hR, if_pos hok, List.append_assoc])
        · rw [if_neg hok] at a3
          exact ex w1.2.2 (n + 1) (by omega) hSw (Or.inr (by rw [a3]; decide)) ⟨zu.tr a1, by rw [hR, if_neg hok]; exact a2, by rw [hR, if_neg hok]; exact a3, fun _ => by rw [hR, if_neg hok]; exact a4 hok, by rw [hR, if_neg hok]; exact a5⟩
      have gone : ¬ bgn J.1 cl = true → ¬ bgn J.1 op = true → (rdQ0 op cl I) = (if (tkL 1 J).1 = true then ((rdQ op cl d n (tkL 1 J).2.1).1, (rdQ op cl d n (tkL 1 J).2.1).2.1, ys ++ ((tkL 1 J).2.2 ++ (rdQ op cl d n (tkL 1 J).2.1).2.2)) else (31, (tkL 1 J).2.1, ys ++ (tkL 1 J).2.2)) → Vv pp l ee (rmT 4 0 0) ss mm aa bb mt cd 3 q (MQ bb (Qw q (fun v w => v = none ∧ rs g w.2.2 [2, 3, 4, 8, 9, 10, 11, 18] [1009] ∧ RQ w.2.2 fu (rdQ0 op cl I).2.1 ∧ gI w.2.2 1003 2 = (rdQ0 op cl I).1 ∧ (¬ (rdQ0 op cl I).1 = 0 → gI w.2.2 1003 3 = (if (rdQ0 op cl I).1 = 32 then nI (I.2.2.2 + 1) else nI ((rdQ0 op cl I).2.1.2.2.2 + 1))) ∧ TK w.2.2 (xs ++ (rdQ0 op cl I).2.2))) aa ss 0 0 (fun a => q.1 ≤ a)) 16 [some (.ref 1003), some (.int (nI (I.2.2.2 + 1))), some (.int (nI n))] [] (0, 0, u) := by
        intro hcl hop hR
        refine v_iload_n X (dk D_Rf_readQuoted 10 rfl) rfl ?_
        refine v_if_le (tgt := 122) X (dk D_Rf_readQuoted 11 rfl) (by decide) (fun c17 => absurd c17 (nI_nle (by omega) (by omega))) (fun _ => ?_)
        refine v_aload_n X (dk D_Rf_readQuoted 12 rfl) rfl ?_
        refine v_getI X (dk D_Rf_readQuoted 13 rfl) F_Rf_72 rfl rfl (hSu.lt (by decide)) ?_
        refine v_if_ne (tgt := 122) X (dk D_Rf_readQuoted 14 rfl) (by decide) (fun c24 => absurd heu c24) (fun _ => ?_)
        refine v_aload_n X (dk D_Rf_readQuoted 15 rfl) rfl ?_
        refine v_iconst (v := nI 0) X (dk D_Rf_readQuoted 16 rfl) (by decide) ?_
        refine v_invV (As := [.int (nI 0)]) (st := []) X (r_peek l q (k := 0) hSu hJ (by decide)) (dk D_Rf_readQuoted 17 rfl) G_Rf_101 K_Rf_peek V_Rf_peek rfl rfl (hSu.lt (by decide)) rfl rfl (Nat.le_of_ble_eq_true rfl) (Nat.le_of_ble_eq_true rfl) (Nat.le_of_ble_eq_true rfl) (Nat.le_of_ble_eq_true rfl) (Nat.le_of_ble_eq_true rfl) ?_
        rintro v ws ⟨rfl, hws⟩
        rw [hws]
        show Vv _ _ _ _ _ _ _ _ _ _ _ _ _ _ _ [.int (atL J.1 (nI 0))] (0, 0, u)
        refine v_if_ge (tgt := 45) X (dk D_Rf_readQuoted 18 rfl) (by decide) (fun _ => ?_) (fun c32 => absurd ((at0_neg hJ32).mpr hJe) c32)
        refine v_aload_n X (dk D_Rf_readQuoted 24 rfl) rfl ?_
        refine v_aload_n X (dk D_Rf_readQuoted 25 rfl) rfl ?_
        refine v_getF X (dk D_Rf_readQuoted 26 rfl) F_Rf_24 rfl rfl (hSu.lt (by decide)) (hSu.2 1003 14) ?_
        refine v_aload_n X (dk D_Rf_readQuoted 27 rfl) rfl ?_
        refine v_getI X (dk D_Rf_readQuoted 28 rfl) F_Rf_119 rfl rfl (hSu.lt (by decide)) ?_
        rw [hQu.2.1]
        refine v_invV (As := [.ref 1008, .int (nI cl.length)]) (st := []) X (r_isAhead l q (r := 1008) (ys := cl) hSu hJ rfl (hSu.lt (by decide)) hQu.2.2.2.2.1 hQu.2.2.2.2.2.1 hQu.2.2.2.2.2.2.2) (dk D_Rf_readQuoted 29 rfl) G_Rf_122 K_Rf_isAhead V_Rf_isAhead rfl rfl (hSu.lt (by decide)) rfl rfl (Nat.le_of_ble_eq_true rfl) (Nat.le_of_ble_eq_true rfl) (Nat.le_of_ble_eq_true rfl) (Nat.le_of_ble_eq_true rfl) (Nat.le_of_ble_eq_true rfl) ?_
        rintro v ws ⟨rfl, hws⟩
        rw [hws]
        show Vv _ _ _ _ _ _ _ _ _ _ _ _ _ _ _ [.int (if bgn J.1 cl = true then 1 else 0)] (0, 0, u)
        refine v_if_eq (tgt := 83) X (dk D_Rf_readQuoted 30 rfl) (by decide) (fun _ => ?_) (fun c57 => absurd (if_neg hcl) c57)
        refine v_aload_n X (dk D_Rf_readQuoted 42 rfl) rfl ?_
        refine v_aload_n X (dk D_Rf_readQuoted 43 rfl) rfl ?_
        refine v_getF X (dk D_Rf_readQuoted 44 rfl) F_Rf_20 rfl rfl (hSu.lt (by decide)) (hSu.2 1003 12) ?_
        refine v_aload_n X (dk D_Rf_readQuoted 45 rfl) rfl ?_
        refine v_getI X (dk D_Rf_readQuoted 46 rfl) F_Rf_112 rfl rfl (hSu.lt (by decide)) ?_
        rw [hQu.1]
        refine v_invV (As := [.ref 1007, .int (nI op.length)]) (st := []) X (r_isAhead l q (r := 1007) (ys := op) hSu hJ rfl (hSu.lt (by decide)) hQu.2.2.1 hQu.2.2.2.1 hQu.2.2.2.2.2.2.1) (dk D_Rf_readQuoted 47 rfl) G_Rf_122 K_Rf_isAhead V_Rf_isAhead rfl rfl (hSu.lt (by decide)) rfl rfl (Nat.le_of_ble_eq_true rfl) (Nat.le_of_ble_eq_true rfl) (Nat.le_of_ble_eq_true rfl) (Nat.le_of_ble_eq_true rfl) (Nat.le_of_ble_eq_true rfl) ?_
        rintro v ws ⟨rfl, hws⟩
        rw [hws]
        show Vv _ _ _ _ _ _ _ _ _ _ _ _ _ _ _ [.int (if bgn J.1 op = true then 1 else 0)] (0, 0, u)
        refine v_if_eq (tgt := 113) X (dk D_Rf_readQuoted 48 rfl) (by decide) (fun _ => ?_) (fun c95 => absurd (if_neg hop) c95)
        refine v_aload_n X (dk D_Rf_readQuoted 56 rfl) rfl ?_
        refine v_iconst (v := nI 1) X (dk D_Rf_readQuoted 57 rfl) (by decide) ?_
        refine v_iconst (v := 1) X (dk D_Rf_readQuoted 58 rfl) (by decide) ?_
        refine v_invV (As := [.int (nI 1), .int 1]) (st := []) X (r_pass l q (n := 1) (pt := true) hSu hJ heu hTK hxl (show 1 ≤ J.1.length from Nat.pos_of_ne_zero (fun z => hJe (List.length_eq_zero_iff.mp z)))) (dk D_Rf_readQuoted 59 rfl) G_Rf_115 K_Rf_pass V_Rf_pass rfl rfl (hSu.lt (by decide)) rfl rfl (Nat.le_of_ble_eq_true rfl) (Nat.le_of_ble_eq_true rfl) (Nat.le_of_ble_eq_true rfl) (Nat.le_of_ble_eq_true rfl) (Nat.le_of_ble_eq_true rfl) ?_
        rintro v w1 ⟨rfl, a1, a2, a3, a4, a5⟩
        show Vv _ _ _ _ _ _ _ _ _ _ _ _ _ _ _ [] (0, 0, w1.2.2)
        refine v_goto (tgt := 16) X (dk D_Rf_readQuoted 60 rfl) (by decide) ?_
        have hSw := a1.S hSu
        rw [show ktL true (tkL 1 J).2.2 = (tkL 1 J).2.2 from rfl, List.append_assoc] at a5
        have htl := tkL_len 1 J
        by_cases hok : (tkL 1 J).1 = true
        · rw [if_pos hok] at a3
          have hlm := tkL_ok hok
          exact ih n w1.2.2 (tkL 1 J).2.1 (ys ++ (tkL 1 J).2.2) (by omega) (by omega) (by omega) (zu.tr a1) a2 a3 a5 (by rw [← List.append_assoc, List.length_append]; omega) (by rw [hR, if_pos hok, List.append_assoc])
        · rw [if_neg hok] at a3
          exact ex w1.2.2 n (by omega) hSw (Or.inr (by rw [a3]; decide)) ⟨zu.tr a1, by rw [hR, if_neg hok]; exact a2, by rw [hR, if_neg hok]; exact a3, fun _ => by rw [hR, if_neg hok]; exact a4 hok, by rw [hR, if_neg hok]; exact a5⟩
      rw [rdQ, if_neg hJe] at hR
      by_cases hcl : bgn J.1 cl = true
      · by_cases hn1 : n = 1
        · rw [if_pos ⟨hcl, hn1⟩] at hR; exact c1 hJe hcl hn1 hR
        · rw [if_neg (fun z => hn1 z.2), nqM, nqN, if_pos hcl, if_pos hcl] at hR
          refine gclose hcl (by omega) (hR.trans ?_)
          split <;> rfl
      · rw [if_neg (fun z => hcl z.1), nqM, nqN, if_neg hcl, if_neg hcl] at hR
        by_cases hop : bgn J.1 op = true
        · rw [if_pos hop, if_pos hop] at hR
          refine gopen hcl hop (hR.trans ?_)
          split <;> rfl
        · rw [if_neg hop, if_neg hop] at hR
          refine gone hcl hop (hR.trans ?_)
          split <;> rfl
  refine v_aload_n X (dk D_Rf_readQuoted 0 rfl) rfl ?_
  refine v_getI X (dk D_Rf_readQuoted 1 rfl) F_Rf_94 rfl rfl (hS.lt (by decide)) ?_
  rw [hI.2.2.2.2.2.1]
  refine v_istore_n (lb := [some (.ref 1003), some (.int (nI (I.2.2.2 + 1))), none]) X (dk D_Rf_readQuoted 2 rfl) (by decide) rfl ?_
  refine v_aload_n X (dk D_Rf_readQuoted 3 rfl) rfl ?_
  refine v_aload_n X (dk D_Rf_readQuoted 4 rfl) rfl ?_
  refine v_getI X (dk D_Rf_readQuoted 5 rfl) F_Rf_112 rfl rfl (hS.lt (by decide)) ?_
  rw [hQ.1]
  refine v_iconst (v := 0) X (dk D_Rf_readQuoted 6 rfl) (by decide) ?_
  refine v_invV (As := [.int (nI op.length), .int 0]) (st := []) X (r_pass l q (n := op.length) (pt := false) hS hI he hX hxl (bgn_len hI.2.1 hQ.2.2.2.1 hb)) (dk D_Rf_readQuoted 7 rfl) G_Rf_115 K_Rf_pass V_Rf_pass rfl rfl (hS.lt (by decide)) rfl rfl (Nat.le_of_ble_eq_true rfl) (Nat.le_of_ble_eq_true rfl) (Nat.le_of_ble_eq_true rfl) (Nat.le_of_ble_eq_true rfl) (Nat.le_of_ble_eq_true rfl) ?_
  rintro v w1 ⟨rfl, a1, a2, a3, a4, a5⟩
  rw [show ktL false (tkL op.length I).2.2 = [] from rfl, List.append_nil] at a5
  have htl := tkL_len op.length I
  show Vv _ _ _ _ _ _ _ _ _ _ _ _ _ _ _ [] (0, 0, w1.2.2)
  refine v_iconst (v := nI 1) X (dk D_Rf_readQuoted 8 rfl) (by decide) ?_
  refine v_istore_n (lb := [some (.ref 1003), some (.int (nI (I.2.2.2 + 1))), some (.int (nI 1))]) X (dk D_Rf_readQuoted 9 rfl) (by decide) rfl ?_
  by_cases hok : (tkL op.length I).1 = true
  · rw [if_pos hok] at a3
    exact loop 32768 1 w1.2.2 (tkL op.length I).2.1 [] (by have := hI.2.1; omega) (by omega) (by have := hI.2.1; omega) a1 a2 a3 (by rw [List.append_nil]; exact a5) (by rw [List.append_nil]; omega) (by rw [rdQ0, if_pos hok, List.nil_append])
  · rw [if_neg hok] at a3
    exact ex w1.2.2 1 (by omega) (a1.S hS) (Or.inr (by rw [a3]; decide)) ⟨a1, by rw [rdQ0, if_neg hok]; exact a2, by rw [rdQ0, if_neg hok]; exact a3, fun _ => by rw [rdQ0, if_neg hok]; exact a4 hok, by rw [rdQ0, if_neg hok, List.append_nil]; exact a5⟩
