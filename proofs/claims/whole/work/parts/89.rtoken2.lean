/-! the reference: readToken -/
theorem r_pass1 (l : Launch) (q : ev_T) {fu : Nat} {I : Ip} {xs : List Int32} {g : mu_T} (hS : Shp g) (hI : RQ g fu I) (he : gI g 1003 2 = 0) (hX : TK g xs) (hxl : xs.length + I.1.length ≤ 32768) (hn : ¬ I.1 = []) : Ctr l q M_Rf_pass 3 [.ref 1003, .int 1, .int 1] (0, 0, g) (fun v w => v = none ∧ rs g w.2.2 [2, 3, 4, 8, 9, 10, 11, 18] [1009] ∧ RQ w.2.2 fu (tkI I) ∧ gI w.2.2 1003 2 = (if tkV I < 0 then 31 else 0) ∧ (tkV I < 0 → gI w.2.2 1003 3 = nI (I.2.2.2 + 1)) ∧ TK w.2.2 (xs ++ (if tkV I < 0 then [] else [I.1.getD 0 0]))) := by
  refine (r_pass l q (n := 1) (pt := true) hS hI he hX hxl (Nat.pos_of_ne_zero (fun z => hn (List.length_eq_zero_iff.mp z)))).weak fun v w h => ?_
  obtain ⟨h1, h2, h3, h4, h5, h6⟩ := h
  by_cases c : tkV I < 0
  · have e : tkL 1 I = (false, I, []) := if_pos c
    rw [e] at h3 h4 h5 h6
    rw [if_pos c, if_pos c, tk_bad (fun z => absurd z (Int32.not_le.mpr c))]
    exact ⟨h1, h2, h3, h4, fun _ => h5 (show ¬ false = true by decide), h6⟩
  · have e : tkL 1 I = (true, tkI I, [I.1.getD 0 0]) := if_neg c
    rw [e] at h3 h4 h5 h6
    rw [if_neg c, if_neg c]
    exact ⟨h1, h2, h3, h4, fun z => absurd z c, h6⟩
theorem nm_ne {u : List Int32} (hl : u.length ≤ 32768) (h : isLet (atL u (nI 0)) = true ∨ isDig (atL u (nI 0)) = true) : ¬ u = [] := fun z => by
  rw [z, atL_out (xs := []) (j := 0) (by decide) (by decide)] at h
  rcases h with h | h
  · exact absurd h (by decide)
  · exact absurd h (by decide)
set_option maxHeartbeats 4000000 in
set_option maxRecDepth 100000 in
theorem r_readToken (l : Launch) (q : ev_T) {fu : Nat} {I : Ip} {op cl : List Int32} {g : mu_T} (hS : Shp g) (hI : RQ g fu I) (he : gI g 1003 2 = 0) (hQ : QT g op cl) : Ctr l q M_Rf_readToken 5 [.ref 1003] (0, 0, g) (fun v w => v = none ∧ rs g w.2.2 [16, 2, 3, 4, 8, 9, 10, 11, 18] [1009] ∧ RQ w.2.2 fu (rdT op cl I).2.2.1 ∧ gI w.2.2 1003 16 = (rdT op cl I).1 ∧ gI w.2.2 1003 2 = (rdT op cl I).2.1 ∧ (¬ (rdT op cl I).2.1 = 0 → gI w.2.2 1003 3 = (if (rdT op cl I).2.1 = 32 then nI (I.2.2.2 + 1) else nI ((rdT op cl I).2.2.1.2.2.2 + 1))) ∧ TK w.2.2 (rdT op cl I).2.2.2) := by
  have y0 : rs g (xI (xI g 1003 18 (nI 0)) 1003 16 0) [16, 2, 3, 4, 8, 9, 10, 11, 18] [1009] := ((rs.rf g _ _).fI (by decide)).fI (by decide)
  have y00 : rs g (xI (xI g 1003 18 (nI 0)) 1003 16 0) [18, 16] [] := ((rs.rf g _ _).fI (by decide)).fI (by decide)
  have S0_ : Shp (xI (xI g 1003 18 (nI 0)) 1003 16 0) := y0.S hS
  have I0 : RQ (xI (xI g 1003 18 (nI 0)) 1003 16 0) fu I := hI.rs y00 (by decide) (by decide)
  have Q0 : QT (xI (xI g 1003 18 (nI 0)) 1003 16 0) op cl := hQ.rs y00 (by decide) (by decide) (by decide) (by decide)
  have e0 : gI (xI (xI g 1003 18 (nI 0)) 1003 16 0) 1003 2 = 0 := (y00.2 2 (by decide)).trans he
  have X0 : TK (xI (xI g 1003 18 (nI 0)) 1003 16 0) [] := ⟨(gI_nk (by decide)).trans (gI_eq _ _ _ _), fun j hj => absurd hj (Nat.not_lt_zero _), by decide⟩
  have hI32 := hI.2.1
  have hxl : ([] : List Int32).length + I.1.length ≤ 32768 := by rw [List.length_nil]; omega
  refine Ctr.mk (lb := [some (.ref 1003), none]) (by decide +kernel) (Nat.le_of_ble_eq_true rfl) rfl rfl ?_
  intro pp ee ss mm aa bb mt cd X hrt hlk hnm
  have ex63 : ∀ (u : mu_T) (J : Ip) (x : Int32), Shp u → RQ u fu J → (x = 0 ∨ J.1 = [] ∨ ¬ gI u 1003 2 = 0) → (rs g u [16, 2, 3, 4, 8, 9, 10, 11, 18] [1009] ∧ RQ u fu (rdT op cl I).2.2.1 ∧ gI u 1003 16 = (rdT op cl I).1 ∧ gI u 1003 2 = (rdT op cl I).2.1 ∧ (¬ (rdT op cl I).2.1 = 0 → gI u 1003 3 = (if (rdT op cl I).2.1 = 32 then nI (I.2.2.2 + 1) else nI ((rdT op cl I).2.2.1.2.2.2 + 1))) ∧ TK u (rdT op cl I).2.2.2) → Vv pp l ee (rmT 5 0 0) ss mm aa bb mt cd 2 q (MQ bb (Qw q (fun v w => v = none ∧ rs g w.2.2 [16, 2, 3, 4, 8, 9, 10, 11, 18] [1009] ∧ RQ w.2.2 fu (rdT op cl I).2.2.1 ∧ gI w.2.2 1003 16 = (rdT op cl I).1 ∧ gI w.2.2 1003 2 = (rdT op cl I).2.1 ∧ (¬ (rdT op cl I).2.1 = 0 → gI w.2.2 1003 3 = (if (rdT op cl I).2.1 = 32 then nI (I.2.2.2 + 1) else nI ((rdT op cl I).2.2.1.2.2.2 + 1))) ∧ TK w.2.2 (rdT op cl I).2.2.2)) aa ss 0 0 (fun a => q.1 ≤ a)) 63 [some (.ref 1003), some (.int x)] [] (0, 0, u) := by
    intro u J x hSu hJ hor hfin
    refine v_iload_n X (dk D_Rf_readToken 34 rfl) rfl ?_
    refine v_if_eq (tgt := 107) X (dk D_Rf_readToken 35 rfl) (by decide) (fun c64 => ?_) (fun c64 => ?_)
    · refine v_goto (tgt := 175) X (dk D_Rf_readToken 57 rfl) (by decide) ?_
      exact v_vret X hlk hrt (dk D_Rf_readToken 91 rfl) ⟨rfl, hfin⟩
    · refine v_aload_n X (dk D_Rf_readToken 36 rfl) rfl ?_
      refine v_iconst (v := nI 0) X (dk D_Rf_readToken 37 rfl) (by decide) ?_
      refine v_invV (As := [.int (nI 0)]) (st := []) X (r_peek l q (k := 0) hSu hJ (by decide)) (dk D_Rf_readToken 38 rfl) G_Rf_101 K_Rf_peek V_Rf_peek rfl rfl (hSu.lt (by decide)) rfl rfl (Nat.le_of_ble_eq_true rfl) (Nat.le_of_ble_eq_true rfl) (Nat.le_of_ble_eq_true rfl) (Nat.le_of_ble_eq_true rfl) (Nat.le_of_ble_eq_true rfl) ?_
      rintro v ws ⟨rfl, hws⟩
      rw [hws]
      show Vv _ _ _ _ _ _ _ _ _ _ _ _ _ _ _ [.int (atL J.1 (nI 0))] (0, 0, u)
      refine v_if_lt (tgt := 107) X (dk D_Rf_readToken 39 rfl) (by decide) (fun c72 => ?_) (fun c72 => ?_)
      · refine v_goto (tgt := 175) X (dk D_Rf_readToken 57 rfl) (by decide) ?_
        exact v_vret X hlk hrt (dk D_Rf_readToken 91 rfl) ⟨rfl, hfin⟩
      · refine v_aload_n X (dk D_Rf_readToken 40 rfl) rfl ?_
        refine v_getI X (dk D_Rf_readToken 41 rfl) F_Rf_72 rfl rfl (hSu.lt (by decide)) ?_
        refine v_if_ne (tgt := 107) X (dk D_Rf_readToken 42 rfl) (by decide) (fun c79 => ?_) (fun c79 => ?_)
        · refine v_goto (tgt := 175) X (dk D_Rf_readToken 57 rfl) (by decide) ?_
          exact v_vret X hlk hrt (dk D_Rf_readToken 91 rfl) ⟨rfl, hfin⟩
        · exact absurd hor (by rintro (h | h | h); exact c64 h; exact c72 (Int32.not_le.mp (fun z => (at0_neg hJ.2.1).mp z h)); exact h c79)
  have lpR : ∀ (d : Nat) (u : mu_T) (J : Ip) (ys : List Int32), J.1.length ≤ d → rs g u [16, 2, 3, 4, 8, 9, 10, 11, 18] [1009] → RQ u fu J → gI u 1003 2 = 0 → TK u ys → ys.length + J.1.length ≤ 32768 → gI u 1003 16 = 2 → (rdT op cl I) = (2, (rdR d J).1, (rdR d J).2.1, ys ++ (rdR d J).2.2) → Vv pp l ee (rmT 5 0 0) ss mm aa bb mt cd 2 q (MQ bb (Qw q (fun v w => v = none ∧ rs g w.2.2 [16, 2, 3, 4, 8, 9, 10, 11, 18] [1009] ∧ RQ w.2.2 fu (rdT op cl I).2.2.1 ∧ gI w.2.2 1003 16 = (rdT op cl I).1 ∧ gI w.2.2 1003 2 = (rdT op cl I).2.1 ∧ (¬ (rdT op cl I).2.1 = 0 → gI w.2.2 1003 3 = (if (rdT op cl I).2.1 = 32 then nI (I.2.2.2 + 1) else nI ((rdT op cl I).2.2.1.2.2.2 + 1))) ∧ TK w.2.2 (rdT op cl I).2.2.2)) aa ss 0 0 (fun a => q.1 ≤ a)) 63 [some (.ref 1003), some (.int 1)] [] (0, 0, u) := by
    intro d
    induction d with
    | zero =>
      intro u J ys hd zu hJ heu hTK hxl h16 hR
      have hSu := zu.S hS
      have hJe : J.1 = [] := List.length_eq_zero_iff.mp (by omega)
      exact ex63 u J 1 hSu hJ (Or.inr (Or.inl hJe)) ⟨zu, by rw [hR, rdR]; exact hJ, by rw [hR]; exact h16, by rw [hR, rdR]; exact heu, fun z => absurd (by rw [hR, rdR]) z, by rw [hR, rdR]; show TK u (ys ++ []); rw [List.append_nil]; exact hTK⟩
    | succ d ih =>
      intro u J ys hd zu hJ heu hTK hxl h16 hR
      have hSu := zu.S hS
      have hJ32 := hJ.2.1
      by_cases hJe : J.1 = []
      · exact ex63 u J 1 hSu hJ (Or.inr (Or.inl hJe)) ⟨zu, by rw [hR, rdR, if_pos hJe]; exact hJ, by rw [hR]; exact h16, by rw [hR, rdR, if_pos hJe]; exact heu, fun z => absurd (by rw [hR, rdR, if_pos hJe]) z, by rw [hR, rdR, if_pos hJe]; show TK u (ys ++ []); rw [List.append_nil]; exact hTK⟩
      · by_cases hnl : atL J.1 (nI 0) = 10
        · refine v_iload_n X (dk D_Rf_readToken 34 rfl) rfl ?_
          refine v_if_eq (tgt := 107) X (dk D_Rf_readToken 35 rfl) (by decide) (fun c64 => absurd c64 (by decide)) (fun _ => ?_)
          refine v_aload_n X (dk D_Rf_readToken 36 rfl) rfl ?_
          refine v_iconst (v := nI 0) X (dk D_Rf_readToken 37 rfl) (by decide) ?_
          refine v_invV (As := [.int (nI 0)]) (st := []) X (r_peek l q (k := 0) hSu hJ (by decide)) (dk D_Rf_readToken 38 rfl) G_Rf_101 K_Rf_peek V_Rf_peek rfl rfl (hSu.lt (by decide)) rfl rfl (Nat.le_of_ble_eq_true rfl) (Nat.le_of_ble_eq_true rfl) (Nat.le_of_ble_eq_true rfl) (Nat.le_of_ble_eq_true rfl) (Nat.le_of_ble_eq_true rfl) ?_
          rintro v ws ⟨rfl, hws⟩
          rw [hws]
          show Vv _ _ _ _ _ _ _ _ _ _ _ _ _ _ _ [.int (atL J.1 (nI 0))] (0, 0, u)
          refine v_if_lt (tgt := 107) X (dk D_Rf_readToken 39 rfl) (by decide) (fun c72 => absurd c72 (fun z => absurd ((at0_neg hJ32).mpr hJe) (Int32.not_le.mpr z))) (fun _ => ?_)
          refine v_aload_n X (dk D_Rf_readToken 40 rfl) rfl ?_
          refine v_getI X (dk D_Rf_readToken 41 rfl) F_Rf_72 rfl rfl (hSu.lt (by decide)) ?_
          refine v_if_ne (tgt := 107) X (dk D_Rf_readToken 42 rfl) (by decide) (fun c79 => absurd heu c79) (fun _ => ?_)
          refine v_aload_n X (dk D_Rf_readToken 43 rfl) rfl ?_
          refine v_iconst (v := nI 0) X (dk D_Rf_readToken 44 rfl) (by decide) ?_
          refine v_invV (As := [.int (nI 0)]) (st := []) X (r_peek l q (k := 0) hSu hJ (by decide)) (dk D_Rf_readToken 45 rfl) G_Rf_101 K_Rf_peek V_Rf_peek rfl rfl (hSu.lt (by decide)) rfl rfl (Nat.le_of_ble_eq_true rfl) (Nat.le_of_ble_eq_true rfl) (Nat.le_of_ble_eq_true rfl) (Nat.le_of_ble_eq_true rfl) (Nat.le_of_ble_eq_true rfl) ?_
          rintro v ws ⟨rfl, hws⟩
          rw [hws]
          show Vv _ _ _ _ _ _ _ _ _ _ _ _ _ _ _ [.int (atL J.1 (nI 0))] (0, 0, u)
          refine v_bipush (v := 10) X (dk D_Rf_readToken 46 rfl) (by decide) ?_
          refine v_icmp_eq (tgt := 96) X (dk D_Rf_readToken 47 rfl) (by decide) (fun _ => ?_) (fun c89 => absurd hnl c89)
          refine v_iconst (v := 0) X (dk D_Rf_readToken 50 rfl) (by decide) ?_
          refine v_istore_n (lb := [some (.ref 1003), some (.int 0)]) X (dk D_Rf_readToken 51 rfl) (by decide) rfl ?_
          refine v_aload_n X (dk D_Rf_readToken 52 rfl) rfl ?_
          refine v_iconst (v := 1) X (dk D_Rf_readToken 53 rfl) (by decide) ?_
          refine v_iconst (v := 1) X (dk D_Rf_readToken 54 rfl) (by decide) ?_
          refine v_invV (As := [.int 1, .int 1]) (st := []) X (r_pass1 l q hSu hJ heu hTK hxl hJe) (dk D_Rf_readToken 55 rfl) G_Rf_115 K_Rf_pass V_Rf_pass rfl rfl (hSu.lt (by decide)) rfl rfl (Nat.le_of_ble_eq_true rfl) (Nat.le_of_ble_eq_true rfl) (Nat.le_of_ble_eq_true rfl) (Nat.le_of_ble_eq_true rfl) (Nat.le_of_ble_eq_true rfl) ?_
          rintro v w1 ⟨rfl, a1, a2, a3, a4, a5⟩
          have hSw := a1.S hSu
          have zw := zu.tr (a1.mono (K2 := [16, 2, 3, 4, 8, 9, 10, 11, 18]) (U2 := [1009]) (by decide) (by decide))
          have k16 := (a1.2 16 (by decide)).trans h16
          show Vv _ _ _ _ _ _ _ _ _ _ _ _ _ _ _ [] (0, 0, w1.2.2)
          refine v_goto (tgt := 63) X (dk D_Rf_readToken 56 rfl) (by decide) ?_
          by_cases hv : tkV J < 0
          · exact ex63 w1.2.2 (tkI J) _ hSw a2 (Or.inr (Or.inr (by rw [a3, if_pos hv]; decide))) ⟨zw, by rw [hR, rdR, if_neg hJe, if_pos hv]; rw [tk_bad (fun z => absurd z (Int32.not_le.mpr hv))] at a2; exact a2, by rw [hR]; exact k16, by rw [hR, rdR, if_neg hJe, if_pos hv, a3, if_pos hv], fun _ => by rw [hR, rdR, if_neg hJe, if_pos hv]; exact a4 hv, by rw [hR, rdR, if_neg hJe, if_pos hv]; show TK _ (ys ++ []); rw [if_pos hv] at a5; exact a5⟩
          · exact ex63 w1.2.2 (tkI J) _ hSw a2 (Or.inl rfl) ⟨zw, by rw [hR, rdR, if_neg hJe, if_neg hv, if_pos hnl]; exact a2, by rw [hR]; exact k16, by rw [hR, rdR, if_neg hJe, if_neg hv, if_pos hnl, a3, if_neg hv], fun z => absurd (by rw [hR, rdR, if_neg hJe, if_neg hv, if_pos hnl]) z, by rw [hR, rdR, if_neg hJe, if_neg hv, if_pos hnl]; rw [if_neg hv] at a5; exact a5⟩
        · refine v_iload_n X (dk D_Rf_readToken 34 rfl) rfl ?_
          refine v_if_eq (tgt := 107) X (dk D_Rf_readToken 35 rfl) (by decide) (fun c64 => absurd c64 (by decide)) (fun _ => ?_)
          refine v_aload_n X (dk D_Rf_readToken 36 rfl) rfl ?_
          refine v_iconst (v := nI 0) X (dk D_Rf_readToken 37 rfl) (by decide) ?_
          refine v_invV (As := [.int (nI 0)]) (st := []) X (r_peek l q (k := 0) hSu hJ (by decide)) (dk D_Rf_readToken 38 rfl) G_Rf_101 K_Rf_peek V_Rf_peek rfl rfl (hSu.lt (by decide)) rfl rfl (Nat.le_of_ble_eq_true rfl) (Nat.le_of_ble_eq_true rfl) (Nat.le_of_ble_eq_true rfl) (Nat.le_of_ble_eq_true rfl) (Nat.le_of_ble_eq_true rfl) ?_
          rintro v ws ⟨rfl, hws⟩
          rw [hws]
          show Vv _ _ _ _ _ _ _ _ _ _ _ _ _ _ _ [.int (atL J.1 (nI 0))] (0, 0, u)
          refine v_if_lt (tgt := 107) X (dk D_Rf_readToken 39 rfl) (by decide) (fun c72 => absurd c72 (fun z => absurd ((at0_neg hJ32).mpr hJe) (Int32.not_le.mpr z))) (fun _ => ?_)
          refine v_aload_n X (dk D_Rf_readToken 40 rfl) rfl ?_
          refine v_getI X (dk D_Rf_readToken 41 rfl) F_Rf_72 rfl rfl (hSu.lt (by decide)) ?_
          refine v_if_ne (tgt := 107) X (dk D_Rf_readToken 42 rfl) (by decide) (fun c79 => absurd heu c79) (fun _ => ?_)
          refine v_aload_n X (dk D_Rf_readToken 43 rfl) rfl ?_
          refine v_iconst (v := nI 0) X (dk D_Rf_readToken 44 rfl) (by decide) ?_
          refine v_invV (As := [.int (nI 0)]) (st := []) X (r_peek l q (k := 0) hSu hJ (by decide)) (dk D_Rf_readToken 45 rfl) G_Rf_101 K_Rf_peek V_Rf_peek rfl rfl (hSu.lt (by decide)) rfl rfl (Nat.le_of_ble_eq_true rfl) (Nat.le_of_ble_eq_true rfl) (Nat.le_of_ble_eq_true rfl) (Nat.le_of_ble_eq_true rfl) (Nat.le_of_ble_eq_true rfl) ?_
          rintro v ws ⟨rfl, hws⟩
          rw [hws]
          show Vv _ _ _ _ _ _ _ _ _ _ _ _ _ _ _ [.int (atL J.1 (nI 0))] (0, 0, u)
          refine v_bipush (v := 10) X (dk D_Rf_readToken 46 rfl) (by decide) ?_
          refine v_icmp_eq (tgt := 96) X (dk D_Rf_readToken 47 rfl) (by decide) (fun c89 => absurd c89 hnl) (fun _ => ?_)
          refine v_iconst (v := 1) X (dk D_Rf_readToken 48 rfl) (by decide) ?_
          refine v_goto (tgt := 97) X (dk D_Rf_readToken 49 rfl) (by decide) ?_
          refine v_istore_n (lb := [some (.ref 1003), some (.int 1)]) X (dk D_Rf_readToken 51 rfl) (by decide) rfl ?_
          refine v_aload_n X (dk D_Rf_readToken 52 rfl) rfl ?_
          refine v_iconst (v := 1) X (dk D_Rf_readToken 53 rfl) (by decide) ?_
          refine v_iconst (v := 1) X (dk D_Rf_readToken 54 rfl) (by decide) ?_
          refine v_invV (As := [.int 1, .int 1]) (st := []) X (r_pass1 l q hSu hJ heu hTK hxl hJe) (dk D_Rf_readToken 55 rfl) G_Rf_115 K_Rf_pass V_Rf_pass rfl rfl (hSu.lt (by decide)) rfl rfl (Nat.le_of_ble_eq_true rfl) (Nat.le_of_ble_eq_true rfl) (Nat.le_of_ble_eq_true rfl) (Nat.le_of_ble_eq_true rfl) (Nat.le_of_ble_eq_true rfl) ?_
          rintro v w1 ⟨rfl, a1, a2, a3, a4, a5⟩
          have hSw := a1.S hSu
          have zw := zu.tr (a1.mono (K2 := [16, 2, 3, 4, 8, 9, 10, 11, 18]) (U2 := [1009]) (by decide) (by decide))
          have k16 := (a1.2 16 (by decide)).trans h16
          show Vv _ _ _ _ _ _ _ _ _ _ _ _ _ _ _ [] (0, 0, w1.2.2)
          refine v_goto (tgt := 63) X (dk D_Rf_readToken 56 rfl) (by decide) ?_
          by_cases hv : tkV J < 0
          · exact ex63 w1.2.2 (tkI J) _ hSw a2 (Or.inr (Or.inr (by rw [a3, if_pos hv]; decide))) ⟨zw, by rw [hR, rdR, if_neg hJe, if_pos hv]; rw [tk_bad (fun z => absurd z (Int32.not_le.mpr hv))] at a2; exact a2, by rw [hR]; exact k16, by rw [hR, rdR, if_neg hJe, if_pos hv, a3, if_pos hv], fun _ => by rw [hR, rdR, if_neg hJe, if_pos hv]; exact a4 hv, by rw [hR, rdR, if_neg hJe, if_pos hv]; show TK _ (ys ++ []); rw [if_pos hv] at a5; exact a5⟩
          · exact ih w1.2.2 (tkI J) (ys ++ [J.1.getD 0 0]) (by have := tk_len hv; omega) zw a2 (by rw [a3, if_neg hv]) (by rw [if_neg hv] at a5; exact a5) (by have := tk_len hv; rw [List.length_append, List.length_singleton]; omega) k16 (by rw [hR, rdR, if_neg hJe, if_neg hv, if_neg hnl]; simp)
  have ex126 : ∀ (u : mu_T) (J : Ip), Shp u → RQ u fu J → ¬ gI u 1003 2 = 0 → (rs g u [16, 2, 3, 4, 8, 9, 10, 11, 18] [1009] ∧ RQ u fu (rdT op cl I).2.2.1 ∧ gI u 1003 16 = (rdT op cl I).1 ∧ gI u 1003 2 = (rdT op cl I).2.1 ∧ (¬ (rdT op cl I).2.1 = 0 → gI u 1003 3 = (if (rdT op cl I).2.1 = 32 then nI (I.2.2.2 + 1) else nI ((rdT op cl I).2.2.1.2.2.2 + 1))) ∧ TK u (rdT op cl I).2.2.2) → Vv pp l ee (rmT 5 0 0) ss mm aa bb mt cd 2 q (MQ bb (Qw q (fun v w => v = none ∧ rs g w.2.2 [16, 2, 3, 4, 8, 9, 10, 11, 18] [1009] ∧ RQ w.2.2 fu (rdT op cl I).2.2.1 ∧ gI w.2.2 1003 16 = (rdT op cl I).1 ∧ gI w.2.2 1003 2 = (rdT op cl I).2.1 ∧ (¬ (rdT op cl I).2.1 = 0 → gI w.2.2 1003 3 = (if (rdT op cl I).2.1 = 32 then nI (I.2.2.2 + 1) else nI ((rdT op cl I).2.2.1.2.2.2 + 1))) ∧ TK w.2.2 (rdT op cl I).2.2.2)) aa ss 0 0 (fun a => q.1 ≤ a)) 126 [some (.ref 1003), none] [] (0, 0, u) := by
    intro u J hSu hJ hee hfin
    refine v_aload_n X (dk D_Rf_readToken 66 rfl) rfl ?_
    refine v_iconst (v := nI 0) X (dk D_Rf_readToken 67 rfl) (by decide) ?_
    refine v_invV (As := [.int (nI 0)]) (st := []) X (r_peek l q (k := 0) hSu hJ (by decide)) (dk D_Rf_readToken 68 rfl) G_Rf_101 K_Rf_peek V_Rf_peek rfl rfl (hSu.lt (by decide)) rfl rfl (Nat.le_of_ble_eq_true rfl) (Nat.le_of_ble_eq_true rfl) (Nat.le_of_ble_eq_true rfl) (Nat.le_of_ble_eq_true rfl) (Nat.le_of_ble_eq_true rfl) ?_
    rintro v ws ⟨rfl, hws⟩
    rw [hws]
    show Vv _ _ _ _ _ _ _ _ _ _ _ _ _ _ _ [.int (atL J.1 (nI 0))] (0, 0, u)
    refine v_invS (As := [.int (atL J.1 (nI 0))]) (st := []) X (r_isLetter l q (b := atL J.1 (nI 0)) (g := u)) (dk D_Rf_readToken 69 rfl) G_Rf_132 K_Rf_isLetter S_Rf_isLetter rfl rfl (Nat.le_of_ble_eq_true rfl) (Nat.le_of_ble_eq_true rfl) (Nat.le_of_ble_eq_true rfl) (Nat.le_of_ble_eq_true rfl) (Nat.le_of_ble_eq_true rfl) ?_
    rintro v ws ⟨rfl, hws⟩
    rw [hws]
    show Vv _ _ _ _ _ _ _ _ _ _ _ _ _ _ _ [.int (if isLet (atL J.1 (nI 0)) = true then 1 else 0)] (0, 0, u)
    refine v_if_ne (tgt := 148) X (dk D_Rf_readToken 70 rfl) (by decide) (fun c134 => ?_) (fun c134 => ?_)
    · refine v_aload_n X (dk D_Rf_readToken 76 rfl) rfl ?_
      refine v_getI X (dk D_Rf_readToken 77 rfl) F_Rf_72 rfl rfl (hSu.lt (by decide)) ?_
      refine v_if_ne (tgt := 175) X (dk D_Rf_readToken 78 rfl) (by decide) (fun _ => ?_) (fun c152 => absurd c152 hee)
      exact v_vret X hlk hrt (dk D_Rf_readToken 91 rfl) ⟨rfl, hfin⟩
    · refine v_aload_n X (dk D_Rf_readToken 71 rfl) rfl ?_
      refine v_iconst (v := nI 0) X (dk D_Rf_readToken 72 rfl) (by decide) ?_
      refine v_invV (As := [.int (nI 0)]) (st := []) X (r_peek l q (k := 0) hSu hJ (by decide)) (dk D_Rf_readToken 73 rfl) G_Rf_101 K_Rf_peek V_Rf_peek rfl rfl (hSu.lt (by decide)) rfl rfl (Nat.le_of_ble_eq_true rfl) (Nat.le_of_ble_eq_true rfl) (Nat.le_of_ble_eq_true rfl) (Nat.le_of_ble_eq_true rfl) (Nat.le_of_ble_eq_true rfl) ?_
      rintro v ws ⟨rfl, hws⟩
      rw [hws]
      show Vv _ _ _ _ _ _ _ _ _ _ _ _ _ _ _ [.int (atL J.1 (nI 0))] (0, 0, u)
      refine v_invS (As := [.int (atL J.1 (nI 0))]) (st := []) X (r_isDigit l q (b := atL J.1 (nI 0)) (g := u)) (dk D_Rf_readToken 74 rfl) G_Rf_136 K_Rf_isDigit S_Rf_isDigit rfl rfl (Nat.le_of_ble_eq_true rfl) (Nat.le_of_ble_eq_true rfl) (Nat.le_of_ble_eq_true rfl) (Nat.le_of_ble_eq_true rfl) (Nat.le_of_ble_eq_true rfl) ?_
      rintro v ws ⟨rfl, hws⟩
      rw [hws]
      show Vv _ _ _ _ _ _ _ _ _ _ _ _ _ _ _ [.int (if isDig (atL J.1 (nI 0)) = true then 1 else 0)] (0, 0, u)
      refine v_if_eq (tgt := 175) X (dk D_Rf_readToken 75 rfl) (by decide) (fun c145 => ?_) (fun c145 => ?_)
      · exact v_vret X hlk hrt (dk D_Rf_readToken 91 rfl) ⟨rfl, hfin⟩
      · refine v_aload_n X (dk D_Rf_readToken 76 rfl) rfl ?_
        refine v_getI X (dk D_Rf_readToken 77 rfl) F_Rf_72 rfl rfl (hSu.lt (by decide)) ?_
        refine v_if_ne (tgt := 175) X (dk D_Rf_readToken 78 rfl) (by decide) (fun _ => ?_) (fun c152 => absurd c152 hee)
        exact v_vret X hlk hrt (dk D_Rf_readToken 91 rfl) ⟨rfl, hfin⟩
  have lpN : ∀ (d : Nat) (u : mu_T) (J : Ip) (ys : List Int32), J.1.length ≤ d → rs g u [16, 2, 3, 4, 8, 9, 10, 11, 18] [1009] → RQ u fu J → gI u 1003 2 = 0 → TK u ys → ys.length + J.1.length ≤ 32768 → gI u 1003 16 = 3 → (rdT op cl I) = (3, (rdN d J).1, (rdN d J).2.1, ys ++ (rdN d J).2.2) → Vv pp l ee (rmT 5 0 0) ss mm aa bb mt cd 2 q (MQ bb (Qw q (fun v w => v = none ∧ rs g w.2.2 [16, 2, 3, 4, 8, 9, 10, 11, 18] [1009] ∧ RQ w.2.2 fu (rdT op cl I).2.2.1 ∧ gI w.2.2 1003 16 = (rdT op cl I).1 ∧ gI w.2.2 1003 2 = (rdT op cl I).2.1 ∧ (¬ (rdT op cl I).2.1 = 0 → gI w.2.2 1003 3 = (if (rdT op cl I).2.1 = 32 then nI (I.2.2.2 + 1) else nI ((rdT op cl I).2.2.1.2.2.2 + 1))) ∧ TK w.2.2 (rdT op cl I).2.2.2)) aa ss 0 0 (fun a => q.1 ≤ a)) 126 [some (.ref 1003), none] [] (0, 0, u) := by
    intro d
    induction d with
    | zero =>
      intro u J ys hd zu hJ heu hTK hxl h16 hR
      have hSu := zu.S hS
      have hJe : J.1 = [] := List.length_eq_zero_iff.mp (by omega)
      have hnl : ¬ isLet (atL J.1 (nI 0)) = true := fun z => nm_ne hJ.2.1 (Or.inl z) hJe
      have hnd : ¬ isDig (atL J.1 (nI 0)) = true := fun z => nm_ne hJ.2.1 (Or.inr z) hJe
      refine v_aload_n X (dk D_Rf_readToken 66 rfl) rfl ?_
      refine v_iconst (v := nI 0) X (dk D_Rf_readToken 67 rfl) (by decide) ?_
      refine v_invV (As := [.int (nI 0)]) (st := []) X (r_peek l q (k := 0) hSu hJ (by decide)) (dk D_Rf_readToken 68 rfl) G_Rf_101 K_Rf_peek V_Rf_peek rfl rfl (hSu.lt (by decide)) rfl rfl (Nat.le_of_ble_eq_true rfl) (Nat.le_of_ble_eq_true rfl) (Nat.le_of_ble_eq_true rfl) (Nat.le_of_ble_eq_true rfl) (Nat.le_of_ble_eq_true rfl) ?_
      rintro v ws ⟨rfl, hws⟩
      rw [hws]
      show Vv _ _ _ _ _ _ _ _ _ _ _ _ _ _ _ [.int (atL J.1 (nI 0))] (0, 0, u)
      refine v_invS (As := [.int (atL J.1 (nI 0))]) (st := []) X (r_isLetter l q (b := atL J.1 (nI 0)) (g := u)) (dk D_Rf_readToken 69 rfl) G_Rf_132 K_Rf_isLetter S_Rf_isLetter rfl rfl (Nat.le_of_ble_eq_true rfl) (Nat.le_of_ble_eq_true rfl) (Nat.le_of_ble_eq_true rfl) (Nat.le_of_ble_eq_true rfl) (Nat.le_of_ble_eq_true rfl) ?_
      rintro v ws ⟨rfl, hws⟩
      rw [hws]
      show Vv _ _ _ _ _ _ _ _ _ _ _ _ _ _ _ [.int (if isLet (atL J.1 (nI 0)) = true then 1 else 0)] (0, 0, u)
      refine v_if_ne (tgt := 148) X (dk D_Rf_readToken 70 rfl) (by decide) (fun c134 => absurd (if_neg hnl) c134) (fun _ => ?_)
      refine v_aload_n X (dk D_Rf_readToken 71 rfl) rfl ?_
      refine v_iconst (v := nI 0) X (dk D_Rf_readToken 72 rfl) (by decide) ?_
      refine v_invV (As := [.int (nI 0)]) (st := []) X (r_peek l q (k := 0) hSu hJ (by decide)) (dk D_Rf_readToken 73 rfl) G_Rf_101 K_Rf_peek V_Rf_peek rfl rfl (hSu.lt (by decide)) rfl rfl (Nat.le_of_ble_eq_true rfl) (Nat.le_of_ble_eq_true rfl) (Nat.le_of_ble_eq_true rfl) (Nat.le_of_ble_eq_true rfl) (Nat.le_of_ble_eq_true rfl) ?_
      rintro v ws ⟨rfl, hws⟩
      rw [hws]
      show Vv _ _ _ _ _ _ _ _ _ _ _ _ _ _ _ [.int (atL J.1 (nI 0))] (0, 0, u)
      refine v_invS (As := [.int (atL J.1 (nI 0))]) (st := []) X (r_isDigit l q (b := atL J.1 (nI 0)) (g := u)) (dk D_Rf_readToken 74 rfl) G_Rf_136 K_Rf_isDigit S_Rf_isDigit rfl rfl (Nat.le_of_ble_eq_true rfl) (Nat.le_of_ble_eq_true rfl) (Nat.le_of_ble_eq_true rfl) (Nat.le_of_ble_eq_true rfl) (Nat.le_of_ble_eq_true rfl) ?_
      rintro v ws ⟨rfl, hws⟩
      rw [hws]
      show Vv _ _ _ _ _ _ _ _ _ _ _ _ _ _ _ [.int (if isDig (atL J.1 (nI 0)) = true then 1 else 0)] (0, 0, u)
      refine v_if_eq (tgt := 175) X (dk D_Rf_readToken 75 rfl) (by decide) (fun _ => ?_) (fun c145 => absurd (if_neg hnd) c145)
      exact v_vret X hlk hrt (dk D_Rf_readToken 91 rfl) ⟨rfl, zu, by rw [hR, rdN]; exact hJ, by rw [hR]; exact h16, by rw [hR, rdN]; exact heu, fun z => absurd (by rw [hR, rdN]) z, by rw [hR, rdN]; show TK u (ys ++ []); rw [List.append_nil]; exact hTK⟩
    | succ d ih =>
      intro u J ys hd zu hJ heu hTK hxl h16 hR
      have hSu := zu.S hS
      have hJ32 := hJ.2.1
      refine v_aload_n X (dk D_Rf_readToken 66 rfl) rfl ?_
      refine v_iconst (v := nI 0) X (dk D_Rf_readToken 67 rfl) (by decide) ?_
      refine v_invV (As := [.int (nI 0)]) (st := []) X (r_peek l q (k := 0) hSu hJ (by decide)) (dk D_Rf_readToken 68 rfl) G_Rf_101 K_Rf_peek V_Rf_peek rfl rfl (hSu.lt (by decide)) rfl rfl (Nat.le_of_ble_eq_true rfl) (Nat.le_of_ble_eq_true rfl) (Nat.le_of_ble_eq_true rfl) (Nat.le_of_ble_eq_true rfl) (Nat.le_of_ble_eq_true rfl) ?_
      rintro v ws ⟨rfl, hws⟩
      rw [hws]
      show Vv _ _ _ _ _ _ _ _ _ _ _ _ _ _ _ [.int (atL J.1 (nI 0))] (0, 0, u)
      refine v_invS (As := [.int (atL J.1 (nI 0))]) (st := []) X (r_isLetter l q (b := atL J.1 (nI 0)) (g := u)) (dk D_Rf_readToken 69 rfl) G_Rf_132 K_Rf_isLetter S_Rf_isLetter rfl rfl (Nat.le_of_ble_eq_true rfl) (Nat.le_of_ble_eq_true rfl) (Nat.le_of_ble_eq_true rfl) (Nat.le_of_ble_eq_true rfl) (Nat.le_of_ble_eq_true rfl) ?_
      rintro v ws ⟨rfl, hws⟩
      rw [hws]
      show Vv _ _ _ _ _ _ _ _ _ _ _ _ _ _ _ [.int (if isLet (atL J.1 (nI 0)) = true then 1 else 0)] (0, 0, u)
      refine v_if_ne (tgt := 148) X (dk D_Rf_readToken 70 rfl) (by decide) (fun c134 => ?_) (fun c134 => ?_)
      · refine v_aload_n X (dk D_Rf_readToken 76 rfl) rfl ?_
        refine v_getI X (dk D_Rf_readToken 77 rfl) F_Rf_72 rfl rfl (hSu.lt (by decide)) ?_
        refine v_if_ne (tgt := 175) X (dk D_Rf_readToken 78 rfl) (by decide) (fun c152 => absurd heu c152) (fun _ => ?_)
        refine v_aload_n X (dk D_Rf_readToken 79 rfl) rfl ?_
        refine v_iconst (v := 1) X (dk D_Rf_readToken 80 rfl) (by decide) ?_
        refine v_iconst (v := 1) X (dk D_Rf_readToken 81 rfl) (by decide) ?_
        refine v_invV (As := [.int 1, .int 1]) (st := []) X (r_pass1 l q hSu hJ heu hTK hxl (nm_ne hJ32 (by first | exact Or.inl (Decidable.byContradiction (fun y => c134 (if_neg y))) | exact Or.inr (Decidable.byContradiction (fun y => c145 (if_neg y)))))) (dk D_Rf_readToken 82 rfl) G_Rf_115 K_Rf_pass V_Rf_pass rfl rfl (hSu.lt (by decide)) rfl rfl (Nat.le_of_ble_eq_true rfl) (Nat.le_of_ble_eq_true rfl) (Nat.le_of_ble_eq_true rfl) (Nat.le_of_ble_eq_true rfl) (Nat.le_of_ble_eq_true rfl) ?_
        rintro v w1 ⟨rfl, a1, a2, a3, a4, a5⟩
        have hSw := a1.S hSu
        have zw := zu.tr (a1.mono (K2 := [16, 2, 3, 4, 8, 9, 10, 11, 18]) (U2 := [1009]) (by decide) (by decide))
        have k16 := (a1.2 16 (by decide)).trans h16
        show Vv _ _ _ _ _ _ _ _ _ _ _ _ _ _ _ [] (0, 0, w1.2.2)
        refine v_goto (tgt := 126) X (dk D_Rf_readToken 83 rfl) (by decide) ?_
        have hnm := (show isNam (atL J.1 (nI 0)) = true from (Bool.or_eq_true _ _).mpr (Or.inl (Decidable.byContradiction (fun y => c134 (if_neg y)))))
        by_cases hv : tkV J < 0
        · exact ex126 w1.2.2 (tkI J) hSw a2 (by rw [a3, if_pos hv]; decide) ⟨zw, by rw [hR, rdN, if_pos hnm, if_pos hv]; rw [tk_bad (fun z => absurd z (Int32.not_le.mpr hv))] at a2; exact a2, by rw [hR]; exact k16, by rw [hR, rdN, if_pos hnm, if_pos hv, a3, if_pos hv], fun _ => by rw [hR, rdN, if_pos hnm, if_pos hv]; exact a4 hv, by rw [hR, rdN, if_pos hnm, if_pos hv]; show TK _ (ys ++ []); rw [if_pos hv] at a5; exact a5⟩
        · exact ih w1.2.2 (tkI J) (ys ++ [J.1.getD 0 0]) (by have := tk_len hv; omega) zw a2 (by rw [a3, if_neg hv]) (by rw [if_neg hv] at a5; exact a5) (by have := tk_len hv; rw [List.length_append, List.length_singleton]; omega) k16 (by rw [hR, rdN, if_pos hnm, if_neg hv]; simp)
      · refine v_aload_n X (dk D_Rf_readToken 71 rfl) rfl ?_
        refine v_iconst (v := nI 0) X (dk D_Rf_readToken 72 rfl) (by decide) ?_
        refine v_invV (As := [.int (nI 0)]) (st := []) X (r_peek l q (k := 0) hSu hJ (by decide)) (dk D_Rf_readToken 73 rfl) G_Rf_101 K_Rf_peek V_Rf_peek rfl rfl (hSu.lt (by decide)) rfl rfl (Nat.le_of_ble_eq_true rfl) (Nat.le_of_ble_eq_true rfl) (Nat.le_of_ble_eq_true rfl) (Nat.le_of_ble_eq_true rfl) (Nat.le_of_ble_eq_true rfl) ?_
        rintro v ws ⟨rfl, hws⟩
        rw [hws]
        show Vv _ _ _ _ _ _ _ _ _ _ _ _ _ _ _ [.int (atL J.1 (nI 0))] (0, 0, u)
        refine v_invS (As := [.int (atL J.1 (nI 0))]) (st := []) X (r_isDigit l q (b := atL J.1 (nI 0)) (g := u)) (dk D_Rf_readToken 74 rfl) G_Rf_136 K_Rf_isDigit S_Rf_isDigit rfl rfl (Nat.le_of_ble_eq_true rfl) (Nat.le_of_ble_eq_true rfl) (Nat.le_of_ble_eq_true rfl) (Nat.le_of_ble_eq_true rfl) (Nat.le_of_ble_eq_true rfl) ?_
        rintro v ws ⟨rfl, hws⟩
        rw [hws]
        show Vv _ _ _ _ _ _ _ _ _ _ _ _ _ _ _ [.int (if isDig (atL J.1 (nI 0)) = true then 1 else 0)] (0, 0, u)
        refine v_if_eq (tgt := 175) X (dk D_Rf_readToken 75 rfl) (by decide) (fun c145 => ?_) (fun c145 => ?_)
        · exact v_vret X hlk hrt (dk D_Rf_readToken 91 rfl) ⟨rfl, zu, by rw [hR, rdN, if_neg (show ¬ isNam (atL J.1 (nI 0)) = true from fun z => by rcases (Bool.or_eq_true _ _).mp z with y | y; exact absurd c134 (by rw [if_pos y]; decide); exact absurd c145 (by rw [if_pos y]; decide))]; exact hJ, by rw [hR]; exact h16, by rw [hR, rdN, if_neg (show ¬ isNam (atL J.1 (nI 0)) = true from fun z => by rcases (Bool.or_eq_true _ _).mp z with y | y; exact absurd c134 (by rw [if_pos y]; decide); exact absurd c145 (by rw [if_pos y]; decide))]; exact heu, fun z => absurd (by rw [hR, rdN, if_neg (show ¬ isNam (atL J.1 (nI 0)) = true from fun z => by rcases (Bool.or_eq_true _ _).mp z with y | y; exact absurd c134 (by rw [if_pos y]; decide); exact absurd c145 (by rw [if_pos y]; decide))]) z, by rw [hR, rdN, if_neg (show ¬ isNam (atL J.1 (nI 0)) = true from fun z => by rcases (Bool.or_eq_true _ _).mp z with y | y; exact absurd c134 (by rw [if_pos y]; decide); exact absurd c145 (by rw [if_pos y]; decide))]; show TK u (ys ++ []); rw [List.append_nil]; exact hTK⟩
        · refine v_aload_n X (dk D_Rf_readToken 76 rfl) rfl ?_
          refine v_getI X (dk D_Rf_readToken 77 rfl) F_Rf_72 rfl rfl (hSu.lt (by decide)) ?_
          refine v_if_ne (tgt := 175) X (dk D_Rf_readToken 78 rfl) (by decide) (fun c152 => absurd heu c152) (fun _ => ?_)
          refine v_aload_n X (dk D_Rf_readToken 79 rfl) rfl ?_
          refine v_iconst (v := 1) X (dk D_Rf_readToken 80 rfl) (by decide) ?_
          refine v_iconst (v := 1) X (dk D_Rf_readToken 81 rfl) (by decide) ?_
          refine v_invV (As := [.int 1, .int 1]) (st := []) X (r_pass1 l q hSu hJ heu hTK hxl (nm_ne hJ32 (by first | exact Or.inl (Decidable.byContradiction (fun y => c134 (if_neg y))) | exact Or.inr (Decidable.byContradiction (fun y => c145 (if_neg y)))))) (dk D_Rf_readToken 82 rfl) G_Rf_115 K_Rf_pass V_Rf_pass rfl rfl (hSu.lt (by decide)) rfl rfl (Nat.le_of_ble_eq_true rfl) (Nat.le_of_ble_eq_true rfl) (Nat.le_of_ble_eq_true rfl) (Nat.le_of_ble_eq_true rfl) (Nat.le_of_ble_eq_true rfl) ?_
          rintro v w1 ⟨rfl, a1, a2, a3, a4, a5⟩
          have hSw := a1.S hSu
          have zw := zu.tr (a1.mono (K2 := [16, 2, 3, 4, 8, 9, 10, 11, 18]) (U2 := [1009]) (by decide) (by decide))
          have k16 := (a1.2 16 (by decide)).trans h16
          show Vv _ _ _ _ _ _ _ _ _ _ _ _ _ _ _ [] (0, 0, w1.2.2)
          refine v_goto (tgt := 126) X (dk D_Rf_readToken 83 rfl) (by decide) ?_
          have hnm := (show isNam (atL J.1 (nI 0)) = true from (Bool.or_eq_true _ _).mpr (Or.inr (Decidable.byContradiction (fun y => c145 (if_neg y)))))
          by_cases hv : tkV J < 0
          · exact ex126 w1.2.2 (tkI J) hSw a2 (by rw [a3, if_pos hv]; decide) ⟨zw, by rw [hR, rdN, if_pos hnm, if_pos hv]; rw [tk_bad (fun z => absurd z (Int32.not_le.mpr hv))] at a2; exact a2, by rw [hR]; exact k16, by rw [hR, rdN, if_pos hnm, if_pos hv, a3, if_pos hv], fun _ => by rw [hR, rdN, if_pos hnm, if_pos hv]; exact a4 hv, by rw [hR, rdN, if_pos hnm, if_pos hv]; show TK _ (ys ++ []); rw [if_pos hv] at a5; exact a5⟩
          · exact ih w1.2.2 (tkI J) (ys ++ [J.1.getD 0 0]) (by have := tk_len hv; omega) zw a2 (by rw [a3, if_neg hv]) (by rw [if_neg hv] at a5; exact a5) (by have := tk_len hv; rw [List.length_append, List.length_singleton]; omega) k16 (by rw [hR, rdN, if_pos hnm, if_neg hv]; simp)
  refine v_aload_n X (dk D_Rf_readToken 0 rfl) rfl ?_
  refine v_iconst (v := nI 0) X (dk D_Rf_readToken 1 rfl) (by decide) ?_
  refine v_putI X (dk D_Rf_readToken 2 rfl) F_Rf_109 CK_Rf rfl rfl (hS.lt (by decide)) rfl rfl ?_
  refine v_aload_n X (dk D_Rf_readToken 3 rfl) rfl ?_
  refine v_iconst (v := 0) X (dk D_Rf_readToken 4 rfl) (by decide) ?_
  refine v_putI X (dk D_Rf_readToken 5 rfl) F_Rf_126 CK_Rf rfl rfl (hS.lt (by decide)) rfl rfl ?_
  refine v_aload_n X (dk D_Rf_readToken 6 rfl) rfl ?_
  refine v_iconst (v := nI 0) X (dk D_Rf_readToken 7 rfl) (by decide) ?_
  refine v_invV (As := [.int (nI 0)]) (st := []) X (r_peek l q (k := 0) S0_ I0 (by decide)) (dk D_Rf_readToken 8 rfl) G_Rf_101 K_Rf_peek V_Rf_peek rfl rfl (S0_.lt (by decide)) rfl rfl (Nat.le_of_ble_eq_true rfl) (Nat.le_of_ble_eq_true rfl) (Nat.le_of_ble_eq_true rfl) (Nat.le_of_ble_eq_true rfl) (Nat.le_of_ble_eq_true rfl) ?_
  rintro v ws ⟨rfl, hws⟩
  rw [hws]
  show Vv _ _ _ _ _ _ _ _ _ _ _ _ _ _ _ [.int (atL I.1 (nI 0))] (0, 0, (xI (xI g 1003 18 (nI 0)) 1003 16 0))
  refine v_if_ge (tgt := 19) X (dk D_Rf_readToken 9 rfl) (by decide) (fun c15 => ?_) (fun c15 => ?_)
  · have hIe : ¬ I.1 = [] := (at0_neg hI.2.1).mp c15
    refine v_aload_n X (dk D_Rf_readToken 11 rfl) rfl ?_
    refine v_aload_n X (dk D_Rf_readToken 12 rfl) rfl ?_
    refine v_getF X (dk D_Rf_readToken 13 rfl) F_Rf_20 rfl rfl (hS.lt (by decide)) (hS.2 1003 12) ?_
    refine v_aload_n X (dk D_Rf_readToken 14 rfl) rfl ?_
    refine v_getI X (dk D_Rf_readToken 15 rfl) F_Rf_112 rfl rfl (hS.lt (by decide)) ?_
    rw [Q0.1]
    refine v_invV (As := [.ref 1007, .int (nI op.length)]) (st := []) X (r_isAhead l q (r := 1007) (ys := op) S0_ I0 rfl (S0_.lt (by decide)) Q0.2.2.1 Q0.2.2.2.1 Q0.2.2.2.2.2.2.1) (dk D_Rf_readToken 16 rfl) G_Rf_122 K_Rf_isAhead V_Rf_isAhead rfl rfl (S0_.lt (by decide)) rfl rfl (Nat.le_of_ble_eq_true rfl) (Nat.le_of_ble_eq_true rfl) (Nat.le_of_ble_eq_true rfl) (Nat.le_of_ble_eq_true rfl) (Nat.le_of_ble_eq_true rfl) ?_
    rintro v ws ⟨rfl, hws⟩
    rw [hws]
    show Vv _ _ _ _ _ _ _ _ _ _ _ _ _ _ _ [.int (if bgn I.1 op = true then 1 else 0)] (0, 0, (xI (xI g 1003 18 (nI 0)) 1003 16 0))
    refine v_if_eq (tgt := 46) X (dk D_Rf_readToken 17 rfl) (by decide) (fun c31 => ?_) (fun c31 => ?_)
    · have hbg : ¬ bgn I.1 op = true := fun z => absurd c31 (by rw [if_pos z]; decide)
      refine v_aload_n X (dk D_Rf_readToken 24 rfl) rfl ?_
      refine v_iconst (v := nI 0) X (dk D_Rf_readToken 25 rfl) (by decide) ?_
      refine v_invV (As := [.int (nI 0)]) (st := []) X (r_peek l q (k := 0) S0_ I0 (by decide)) (dk D_Rf_readToken 26 rfl) G_Rf_101 K_Rf_peek V_Rf_peek rfl rfl (S0_.lt (by decide)) rfl rfl (Nat.le_of_ble_eq_true rfl) (Nat.le_of_ble_eq_true rfl) (Nat.le_of_ble_eq_true rfl) (Nat.le_of_ble_eq_true rfl) (Nat.le_of_ble_eq_true rfl) ?_
      rintro v ws ⟨rfl, hws⟩
      rw [hws]
      show Vv _ _ _ _ _ _ _ _ _ _ _ _ _ _ _ [.int (atL I.1 (nI 0))] (0, 0, (xI (xI g 1003 18 (nI 0)) 1003 16 0))
      refine v_bipush (v := 35) X (dk D_Rf_readToken 27 rfl) (by decide) ?_
      refine v_icmp_ne (tgt := 110) X (dk D_Rf_readToken 28 rfl) (by decide) (fun c53 => ?_) (fun c53 => ?_)
      · refine v_aload_n X (dk D_Rf_readToken 58 rfl) rfl ?_
        refine v_iconst (v := nI 0) X (dk D_Rf_readToken 59 rfl) (by decide) ?_
        refine v_invV (As := [.int (nI 0)]) (st := []) X (r_peek l q (k := 0) S0_ I0 (by decide)) (dk D_Rf_readToken 60 rfl) G_Rf_101 K_Rf_peek V_Rf_peek rfl rfl (S0_.lt (by decide)) rfl rfl (Nat.le_of_ble_eq_true rfl) (Nat.le_of_ble_eq_true rfl) (Nat.le_of_ble_eq_true rfl) (Nat.le_of_ble_eq_true rfl) (Nat.le_of_ble_eq_true rfl) ?_
        rintro v ws ⟨rfl, hws⟩
        rw [hws]
        show Vv _ _ _ _ _ _ _ _ _ _ _ _ _ _ _ [.int (atL I.1 (nI 0))] (0, 0, (xI (xI g 1003 18 (nI 0)) 1003 16 0))
        refine v_invS (As := [.int (atL I.1 (nI 0))]) (st := []) X (r_isLetter l q (b := atL I.1 (nI 0)) (g := (xI (xI g 1003 18 (nI 0)) 1003 16 0))) (dk D_Rf_readToken 61 rfl) G_Rf_132 K_Rf_isLetter S_Rf_isLetter rfl rfl (Nat.le_of_ble_eq_true rfl) (Nat.le_of_ble_eq_true rfl) (Nat.le_of_ble_eq_true rfl) (Nat.le_of_ble_eq_true rfl) (Nat.le_of_ble_eq_true rfl) ?_
        rintro v ws ⟨rfl, hws⟩
        rw [hws]
        show Vv _ _ _ _ _ _ _ _ _ _ _ _ _ _ _ [.int (if isLet (atL I.1 (nI 0)) = true then 1 else 0)] (0, 0, (xI (xI g 1003 18 (nI 0)) 1003 16 0))
        refine v_if_eq (tgt := 164) X (dk D_Rf_readToken 62 rfl) (by decide) (fun c118 => ?_) (fun c118 => ?_)
        · refine v_aload_n X (dk D_Rf_readToken 84 rfl) rfl ?_
          refine v_iconst (v := 4) X (dk D_Rf_readToken 85 rfl) (by decide) ?_
          refine v_putI X (dk D_Rf_readToken 86 rfl) F_Rf_126 CK_Rf rfl rfl (hS.lt (by decide)) rfl rfl ?_
          refine v_aload_n X (dk D_Rf_readToken 87 rfl) rfl ?_
          refine v_iconst (v := 1) X (dk D_Rf_readToken 88 rfl) (by decide) ?_
          refine v_iconst (v := 1) X (dk D_Rf_readToken 89 rfl) (by decide) ?_
          have y1 : rs (xI (xI g 1003 18 (nI 0)) 1003 16 0) (xI (xI (xI g 1003 18 (nI 0)) 1003 16 0) 1003 16 4) [16] [] := (rs.rf _ _ _).fI (by decide)
          refine v_invV (As := [.int 1, .int 1]) (st := []) X (r_pass1 l q (y1.S S0_) (I0.rs y1 (by decide) (by decide)) ((y1.2 2 (by decide)).trans e0) (X0.rs y1 (by decide) (by decide)) hxl hIe) (dk D_Rf_readToken 90 rfl) G_Rf_115 K_Rf_pass V_Rf_pass rfl rfl (S0_.lt (by decide)) rfl rfl (Nat.le_of_ble_eq_true rfl) (Nat.le_of_ble_eq_true rfl) (Nat.le_of_ble_eq_true rfl) (Nat.le_of_ble_eq_true rfl) (Nat.le_of_ble_eq_true rfl) ?_
          rintro v w1 ⟨rfl, a1, a2, a3, a4, a5⟩
          show Vv _ _ _ _ _ _ _ _ _ _ _ _ _ _ _ [] (0, 0, w1.2.2)
          exact v_vret X hlk hrt (dk D_Rf_readToken 91 rfl) ⟨rfl, (y0.tr ((rs.rf _ _ _).fI (by decide) : rs (xI (xI g 1003 18 (nI 0)) 1003 16 0) (xI (xI (xI g 1003 18 (nI 0)) 1003 16 0) 1003 16 4) [16, 2, 3, 4, 8, 9, 10, 11, 18] [1009])).tr (a1.mono (by decide) (by decide)), by rw [rdT, if_neg hIe, if_neg hbg, if_neg c53, if_neg (show ¬ isLet (atL I.1 (nI 0)) = true from fun y => absurd c118 (by rw [if_pos y]; decide))]; exact a2, by rw [rdT, if_neg hIe, if_neg hbg, if_neg c53, if_neg (show ¬ isLet (atL I.1 (nI 0)) = true from fun y => absurd c118 (by rw [if_pos y]; decide))]; exact (a1.2 16 (by decide)).trans (gI_eq _ _ _ _), by rw [rdT, if_neg hIe, if_neg hbg, if_neg c53, if_neg (show ¬ isLet (atL I.1 (nI 0)) = true from fun y => absurd c118 (by rw [if_pos y]; decide))]; exact a3, fun z => by rw [rdT, if_neg hIe, if_neg hbg, if_neg c53, if_neg (show ¬ isLet (atL I.1 (nI 0)) = true from fun y => absurd c118 (by rw [if_pos y]; decide))] at z ⊢; have hv : tkV I < 0 := Decidable.byContradiction (fun y => z (if_neg y)); show gI _ 1003 3 = (if (if tkV I < 0 then (31 : Int32) else 0) = 32 then _ else _); rw [if_neg (if_32 (by decide) (by decide)), tk_bad (fun y => absurd y (Int32.not_le.mpr hv))]; exact a4 hv, by rw [rdT, if_neg hIe, if_neg hbg, if_neg c53, if_neg (show ¬ isLet (atL I.1 (nI 0)) = true from fun y => absurd c118 (by rw [if_pos y]; decide))]; rw [List.nil_append] at a5; exact a5⟩
        · refine v_aload_n X (dk D_Rf_readToken 63 rfl) rfl ?_
          refine v_iconst (v := 3) X (dk D_Rf_readToken 64 rfl) (by decide) ?_
          refine v_putI X (dk D_Rf_readToken 65 rfl) F_Rf_126 CK_Rf rfl rfl (hS.lt (by decide)) rfl rfl ?_
          exact lpN 32768 (xI (xI (xI g 1003 18 (nI 0)) 1003 16 0) 1003 16 3) I [] (by omega) (y0.tr ((rs.rf _ _ _).fI (by decide))) (I0.rs (show rs (xI (xI g 1003 18 (nI 0)) 1003 16 0) (xI (xI (xI g 1003 18 (nI 0)) 1003 16 0) 1003 16 3) [16] [] from (rs.rf _ _ _).fI (by decide)) (by decide) (by decide)) ((gI_nk (by decide)).trans e0) (X0.rs (show rs (xI (xI g 1003 18 (nI 0)) 1003 16 0) (xI (xI (xI g 1003 18 (nI 0)) 1003 16 0) 1003 16 3) [16] [] from (rs.rf _ _ _).fI (by decide)) (by decide) (by decide)) hxl (gI_eq _ _ _ _) (by rw [rdT, if_neg hIe, if_neg hbg, if_neg c53, if_pos (Decidable.byContradiction (fun y => c118 (if_neg y))), List.nil_append])
      · refine v_aload_n X (dk D_Rf_readToken 29 rfl) rfl ?_
        refine v_iconst (v := 2) X (dk D_Rf_readToken 30 rfl) (by decide) ?_
        refine v_putI X (dk D_Rf_readToken 31 rfl) F_Rf_126 CK_Rf rfl rfl (hS.lt (by decide)) rfl rfl ?_
        refine v_iconst (v := 1) X (dk D_Rf_readToken 32 rfl) (by decide) ?_
        refine v_istore_n (lb := [some (.ref 1003), some (.int 1)]) X (dk D_Rf_readToken 33 rfl) (by decide) rfl ?_
        exact lpR 32768 (xI (xI (xI g 1003 18 (nI 0)) 1003 16 0) 1003 16 2) I [] (by omega) (y0.tr ((rs.rf _ _ _).fI (by decide))) (I0.rs (show rs (xI (xI g 1003 18 (nI 0)) 1003 16 0) (xI (xI (xI g 1003 18 (nI 0)) 1003 16 0) 1003 16 2) [16] [] from (rs.rf _ _ _).fI (by decide)) (by decide) (by decide)) ((gI_nk (by decide)).trans e0) (X0.rs (show rs (xI (xI g 1003 18 (nI 0)) 1003 16 0) (xI (xI (xI g 1003 18 (nI 0)) 1003 16 0) 1003 16 2) [16] [] from (rs.rf _ _ _).fI (by decide)) (by decide) (by decide)) hxl (gI_eq _ _ _ _) (by rw [rdT, if_neg hIe, if_neg hbg, if_pos c53, List.nil_append])
    · have hbg : bgn I.1 op = true := Decidable.byContradiction (fun z => c31 (if_neg z))
      refine v_aload_n X (dk D_Rf_readToken 18 rfl) rfl ?_
      refine v_iconst (v := 1) X (dk D_Rf_readToken 19 rfl) (by decide) ?_
      refine v_putI X (dk D_Rf_readToken 20 rfl) F_Rf_126 CK_Rf rfl rfl (hS.lt (by decide)) rfl rfl ?_
      refine v_aload_n X (dk D_Rf_readToken 21 rfl) rfl ?_
      have y1 : rs (xI (xI g 1003 18 (nI 0)) 1003 16 0) (xI (xI (xI g 1003 18 (nI 0)) 1003 16 0) 1003 16 1) [16] [] := (rs.rf _ _ _).fI (by decide)
      refine v_invV (As := []) (st := []) X (r_readQuoted l q (y1.S S0_) (I0.rs y1 (by decide) (by decide)) ((y1.2 2 (by decide)).trans e0) (X0.rs y1 (by decide) (by decide)) hxl (Q0.rs y1 (by decide) (by decide) (by decide) (by decide)) hbg) (dk D_Rf_readToken 22 rfl) G_Rf_129 K_Rf_readQuoted V_Rf_readQuoted rfl rfl (S0_.lt (by decide)) rfl rfl (Nat.le_of_ble_eq_true rfl) (Nat.le_of_ble_eq_true rfl) (Nat.le_of_ble_eq_true rfl) (Nat.le_of_ble_eq_true rfl) (Nat.le_of_ble_eq_true rfl) ?_
      rintro v w1 ⟨rfl, a1, a2, a3, a4, a5⟩
      show Vv _ _ _ _ _ _ _ _ _ _ _ _ _ _ _ [] (0, 0, w1.2.2)
      refine v_goto (tgt := 175) X (dk D_Rf_readToken 23 rfl) (by decide) ?_
      exact v_vret X hlk hrt (dk D_Rf_readToken 91 rfl) ⟨rfl, (y0.tr ((rs.rf _ _ _).fI (by decide) : rs (xI (xI g 1003 18 (nI 0)) 1003 16 0) (xI (xI (xI g 1003 18 (nI 0)) 1003 16 0) 1003 16 1) [16, 2, 3, 4, 8, 9, 10, 11, 18] [1009])).tr (a1.mono (by decide) (by decide)), by rw [rdT, if_neg hIe, if_pos hbg]; exact a2, by rw [rdT, if_neg hIe, if_pos hbg]; exact (a1.2 16 (by decide)).trans (gI_eq _ _ _ _), by rw [rdT, if_neg hIe, if_pos hbg]; exact a3, by rw [rdT, if_neg hIe, if_pos hbg]; exact a4, by rw [rdT, if_neg hIe, if_pos hbg]; rw [List.nil_append] at a5; exact a5⟩
  · have hIe : I.1 = [] := Decidable.byContradiction (fun z => c15 ((at0_neg hI.2.1).mpr z))
    exact v_vret X hlk hrt (dk D_Rf_readToken 10 rfl) ⟨rfl, y0, by rw [rdT, if_pos hIe]; exact I0, by rw [rdT, if_pos hIe]; exact gI_eq _ _ _ _, by rw [rdT, if_pos hIe]; exact e0, fun z => absurd (by rw [rdT, if_pos hIe]) z, by rw [rdT, if_pos hIe]; exact X0⟩
