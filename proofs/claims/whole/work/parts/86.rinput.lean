/-! the reference: input -/
set_option maxHeartbeats 4000000 in
set_option maxRecDepth 100000 in
theorem r_peek (l : Launch) (q : ev_T) {fu k : Nat} {I : Ip} {g : mu_T} (hS : Shp g) (hI : RQ g fu I) (hk : k < 1000) : Ctr l q M_Rf_peek 0 [.ref 1003, .int (nI k)] (0, 0, g) (fun v w => v = some (.int (atL I.1 (nI k))) ∧ w.2.2 = g) := by
  have hl := hI.2.1
  refine Ctr.mk (lb := [some (.ref 1003), some (.int (nI k))]) (by decide +kernel) (Nat.le_of_ble_eq_true rfl) rfl rfl ?_
  intro pp ee ss mm aa bb mt cd X hrt hlk hnm
  refine v_aload_n X (dk D_Rf_peek 0 rfl) rfl ?_
  refine v_getI X (dk D_Rf_peek 1 rfl) F_Rf_78 rfl rfl (hS.lt (by decide)) ?_
  refine v_iload_n X (dk D_Rf_peek 2 rfl) rfl ?_
  refine v_iadd X (dk D_Rf_peek 3 rfl) ?_
  rw [hI.1, nI_add]
  refine v_ldc X (dk D_Rf_peek 4 rfl) C_Rf_9 ?_
  refine v_icmp_ge (tgt := 29) X (dk D_Rf_peek 5 rfl) (by decide) (fun c8 => ?_) (fun c8 => ?_)
  · have hge : I.1.length ≤ k := by have := (nI_leI (a := 32768) (by decide) (by omega)).mp c8; omega
    refine v_iconst (v := -1) X (dk D_Rf_peek 16 rfl) (by decide) ?_
    exact v_iret X hlk hrt (dk D_Rf_peek 17 rfl) ⟨by rw [atL_out hge (by omega)], rfl⟩
  · have hlt : k < I.1.length := Decidable.byContradiction (fun z => c8 (nI_le (a := 32768) (by omega) (by omega)))
    refine v_aload_n X (dk D_Rf_peek 6 rfl) rfl ?_
    refine v_getF X (dk D_Rf_peek 7 rfl) F_Rf_17 rfl rfl (hS.lt (by decide)) (hS.2 1003 7) ?_
    refine v_aload_n X (dk D_Rf_peek 8 rfl) rfl ?_
    refine v_getI X (dk D_Rf_peek 9 rfl) F_Rf_78 rfl rfl (hS.lt (by decide)) ?_
    refine v_iload_n X (dk D_Rf_peek 10 rfl) rfl ?_
    refine v_iadd X (dk D_Rf_peek 11 rfl) ?_
    rw [hI.1, nI_add]
    refine v_bald X (dk D_Rf_peek 12 rfl) rfl (hS.lt (by decide)) (vp_in_nI (show 32768 - I.1.length + k < 32768 by omega) (by decide)) ?_
    rw [nI_clamp (by omega), hI.2.2.1 k hlt]
    refine v_sipush (v := 255) X (dk D_Rf_peek 13 rfl) (by decide) ?_
    refine v_iand X (dk D_Rf_peek 14 rfl) ?_
    refine v_goto (tgt := 30) X (dk D_Rf_peek 15 rfl) (by decide) ?_
    exact v_iret X hlk hrt (dk D_Rf_peek 17 rfl) ⟨by rw [atL_nI hlt (by omega)], rfl⟩
set_option maxHeartbeats 4000000 in
set_option maxRecDepth 100000 in
theorem r_inputLeft (l : Launch) (q : ev_T) {fu : Nat} {I : Ip} {g : mu_T} (hS : Shp g) (hI : RQ g fu I) : Ctr l q M_Rf_inputLeft 0 [.ref 1003] (0, 0, g) (fun v w => v = some (.int (nI I.1.length)) ∧ w.2.2 = g) := by
  have hl := hI.2.1
  refine Ctr.mk (lb := [some (.ref 1003)]) (by decide +kernel) (Nat.le_of_ble_eq_true rfl) rfl rfl ?_
  intro pp ee ss mm aa bb mt cd X hrt hlk hnm
  refine v_ldc X (dk D_Rf_inputLeft 0 rfl) C_Rf_9 ?_
  refine v_aload_n X (dk D_Rf_inputLeft 1 rfl) rfl ?_
  refine v_getI X (dk D_Rf_inputLeft 2 rfl) F_Rf_78 rfl rfl (hS.lt (by decide)) ?_
  rw [hI.1]
  refine v_isub X (dk D_Rf_inputLeft 3 rfl) ?_
  rw [show (32768 : Int32) - nI (32768 - I.1.length) = nI I.1.length from by rw [show (32768 : Int32) = nI 32768 from rfl, pk_sub (by omega)]; exact congrArg nI (by omega)]
  exact v_iret X hlk hrt (dk D_Rf_inputLeft 4 rfl) ⟨rfl, rfl⟩
set_option maxHeartbeats 4000000 in
set_option maxRecDepth 100000 in
theorem r_fail (l : Launch) (q : ev_T) {n ln : Int32} {g : mu_T} (hS : Shp g) : Ctr l q M_Rf_fail 0 [.ref 1003, .int n, .int ln] (0, 0, g) (fun v w => v = none ∧ w.2.2 = if gI g 1003 2 = 0 then xI (xI g 1003 2 n) 1003 3 ln else g) := by

  refine Ctr.mk (lb := [some (.ref 1003), some (.int n), some (.int ln)]) (by decide +kernel) (Nat.le_of_ble_eq_true rfl) rfl rfl ?_
  intro pp ee ss mm aa bb mt cd X hrt hlk hnm
  refine v_aload_n X (dk D_Rf_fail 0 rfl) rfl ?_
  refine v_getI X (dk D_Rf_fail 1 rfl) F_Rf_72 rfl rfl (hS.lt (by decide)) ?_
  refine v_if_ne (tgt := 17) X (dk D_Rf_fail 2 rfl) (by decide) (fun c4 => ?_) (fun c4 => ?_)
  · exact v_vret X hlk hrt (dk D_Rf_fail 9 rfl) ⟨rfl, by rw [if_neg c4]⟩
  · refine v_aload_n X (dk D_Rf_fail 3 rfl) rfl ?_
    refine v_iload_n X (dk D_Rf_fail 4 rfl) rfl ?_
    refine v_putI X (dk D_Rf_fail 5 rfl) F_Rf_72 CK_Rf rfl rfl (hS.lt (by decide)) rfl rfl ?_
    refine v_aload_n X (dk D_Rf_fail 6 rfl) rfl ?_
    refine v_iload_n X (dk D_Rf_fail 7 rfl) rfl ?_
    refine v_putI X (dk D_Rf_fail 8 rfl) F_Rf_75 CK_Rf rfl rfl (hS.lt (by decide)) rfl rfl ?_
    exact v_vret X hlk hrt (dk D_Rf_fail 9 rfl) ⟨rfl, by rw [if_pos c4]⟩
set_option maxHeartbeats 4000000 in
set_option maxRecDepth 100000 in
theorem r_fail1 (l : Launch) (q : ev_T) {n : Int32} {g : mu_T} (hS : Shp g) : Ctr l q M_Rf_fail1 1 [.ref 1003, .int n] (0, 0, g) (fun v w => v = none ∧ w.2.2 = if gI g 1003 2 = 0 then xI (xI g 1003 2 n) 1003 3 (gI g 1003 10) else g) := by

  refine Ctr.mk (lb := [some (.ref 1003), some (.int n)]) (by decide +kernel) (Nat.le_of_ble_eq_true rfl) rfl rfl ?_
  intro pp ee ss mm aa bb mt cd X hrt hlk hnm
  refine v_aload_n X (dk D_Rf_fail1 0 rfl) rfl ?_
  refine v_iload_n X (dk D_Rf_fail1 1 rfl) rfl ?_
  refine v_aload_n X (dk D_Rf_fail1 2 rfl) rfl ?_
  refine v_getI X (dk D_Rf_fail1 3 rfl) F_Rf_94 rfl rfl (hS.lt (by decide)) ?_
  refine v_invV (As := [.int n, .int (gI g 1003 10)]) (st := []) X (r_fail l q (n := n) (ln := gI g 1003 10) hS) (dk D_Rf_fail1 4 rfl) G_Rf_97 K_Rf_fail V_Rf_fail rfl rfl (hS.lt (by decide)) rfl rfl (Nat.le_of_ble_eq_true rfl) (Nat.le_of_ble_eq_true rfl) (Nat.le_of_ble_eq_true rfl) (Nat.le_of_ble_eq_true rfl) (Nat.le_of_ble_eq_true rfl) ?_
  rintro v w ⟨rfl, hw⟩
  rw [hw]
  show Vv _ _ _ _ _ _ _ _ _ _ _ _ _ _ _ [] (0, 0, if gI g 1003 2 = 0 then xI (xI g 1003 2 n) 1003 3 (gI g 1003 10) else g)
  exact v_vret X hlk hrt (dk D_Rf_fail1 5 rfl) ⟨rfl, rfl⟩
def isBlk (b : Int32) : Bool := decide (b = 32 ∨ b = 9 ∨ b = 11 ∨ b = 12 ∨ b = 13)
set_option maxHeartbeats 4000000 in
set_option maxRecDepth 100000 in
theorem r_isBlank (l : Launch) (q : ev_T) {b : Int32} {g : mu_T}  : Ctr l q M_Rf_isBlank 0 [.int b] (0, 0, g) (fun v w => v = some (.int (if isBlk b = true then 1 else 0)) ∧ w.2.2 = g) := by

  refine Ctr.mk (lb := [some (.int b)]) (by decide +kernel) (Nat.le_of_ble_eq_true rfl) rfl rfl ?_
  intro pp ee ss mm aa bb mt cd X hrt hlk hnm
  refine v_iload_n X (dk D_Rf_isBlank 0 rfl) rfl ?_
  refine v_bipush (v := 32) X (dk D_Rf_isBlank 1 rfl) (by decide) ?_
  refine v_icmp_eq (tgt := 30) X (dk D_Rf_isBlank 2 rfl) (by decide) (fun c3 => ?_) (fun c3 => ?_)
  · refine v_iconst (v := 1) X (dk D_Rf_isBlank 15 rfl) (by decide) ?_
    refine v_goto (tgt := 35) X (dk D_Rf_isBlank 16 rfl) (by decide) ?_
    exact v_zret X hlk hrt rfl (dk D_Rf_isBlank 18 rfl) ⟨congrArg (fun z => some (Value.int z)) (by first | rw [if_pos (show isBlk b = true from decide_eq_true (Or.inl c3))] | rw [if_pos (show isBlk b = true from decide_eq_true (Or.inr (Or.inl c9)))] | rw [if_pos (show isBlk b = true from decide_eq_true (Or.inr (Or.inr (Or.inl c15))))] | rw [if_pos (show isBlk b = true from decide_eq_true (Or.inr (Or.inr (Or.inr (Or.inl c21)))))] | rw [if_pos (show isBlk b = true from decide_eq_true (Or.inr (Or.inr (Or.inr (Or.inr c27)))))] | rw [if_neg (show ¬ isBlk b = true from fun z => by rcases of_decide_eq_true z with z | z | z | z | z; exact c3 z; exact c9 z; exact c15 z; exact c21 z; exact c27 z)]), rfl⟩
  · refine v_iload_n X (dk D_Rf_isBlank 3 rfl) rfl ?_
    refine v_bipush (v := 9) X (dk D_Rf_isBlank 4 rfl) (by decide) ?_
    refine v_icmp_eq (tgt := 30) X (dk D_Rf_isBlank 5 rfl) (by decide) (fun c9 => ?_) (fun c9 => ?_)
    · refine v_iconst (v := 1) X (dk D_Rf_isBlank 15 rfl) (by decide) ?_
      refine v_goto (tgt := 35) X (dk D_Rf_isBlank 16 rfl) (by decide) ?_
      exact v_zret X hlk hrt rfl (dk D_Rf_isBlank 18 rfl) ⟨congrArg (fun z => some (Value.int z)) (by first | rw [if_pos (show isBlk b = true from decide_eq_true (Or.inl c3))] | rw [if_pos (show isBlk b = true from decide_eq_true (Or.inr (Or.inl c9)))] | rw [if_pos (show isBlk b = true from decide_eq_true (Or.inr (Or.inr (Or.inl c15))))] | rw [if_pos (show isBlk b = true from decide_eq_true (Or.inr (Or.inr (Or.inr (Or.inl c21)))))] | rw [if_pos (show isBlk b = true from decide_eq_true (Or.inr (Or.inr (Or.inr (Or.inr c27)))))] | rw [if_neg (show ¬ isBlk b = true from fun z => by rcases of_decide_eq_true z with z | z | z | z | z; exact c3 z; exact c9 z; exact c15 z; exact c21 z; exact c27 z)]), rfl⟩
    · refine v_iload_n X (dk D_Rf_isBlank 6 rfl) rfl ?_
      refine v_bipush (v := 11) X (dk D_Rf_isBlank 7 rfl) (by decide) ?_
      refine v_icmp_eq (tgt := 30) X (dk D_Rf_isBlank 8 rfl) (by decide) (fun c15 => ?_) (fun c15 => ?_)
      · refine v_iconst (v := 1) X (dk D_Rf_isBlank 15 rfl) (by decide) ?_
        refine v_goto (tgt := 35) X (dk D_Rf_isBlank 16 rfl) (by decide) ?_
        exact v_zret X hlk hrt rfl (dk D_Rf_isBlank 18 rfl) ⟨congrArg (fun z => some (Value.int z)) (by first | rw [if_pos (show isBlk b = true from decide_eq_true (Or.inl c3))] | rw [if_pos (show isBlk b = true from decide_eq_true (Or.inr (Or.inl c9)))] | rw [if_pos (show isBlk b = true from decide_eq_true (Or.inr (Or.inr (Or.inl c15))))] | rw [if_pos (show isBlk b = true from decide_eq_true (Or.inr (Or.inr (Or.inr (Or.inl c21)))))] | rw [if_pos (show isBlk b = true from decide_eq_true (Or.inr (Or.inr (Or.inr (Or.inr c27)))))] | rw [if_neg (show ¬ isBlk b = true from fun z => by rcases of_decide_eq_true z with z | z | z | z | z; exact c3 z; exact c9 z; exact c15 z; exact c21 z; exact c27 z)]), rfl⟩
      · refine v_iload_n X (dk D_Rf_isBlank 9 rfl) rfl ?_
        refine v_bipush (v := 12) X (dk D_Rf_isBlank 10 rfl) (by decide) ?_
        refine v_icmp_eq (tgt := 30) X (dk D_Rf_isBlank 11 rfl) (by decide) (fun c21 => ?_) (fun c21 => ?_)
        · refine v_iconst (v := 1) X (dk D_Rf_isBlank 15 rfl) (by decide) ?_
          refine v_goto (tgt := 35) X (dk D_Rf_isBlank 16 rfl) (by decide) ?_
          exact v_zret X hlk hrt rfl (dk D_Rf_isBlank 18 rfl) ⟨congrArg (fun z => some (Value.int z)) (by first | rw [if_pos (show isBlk b = true from decide_eq_true (Or.inl c3))] | rw [if_pos (show isBlk b = true from decide_eq_true (Or.inr (Or.inl c9)))] | rw [if_pos (show isBlk b = true from decide_eq_true (Or.inr (Or.inr (Or.inl c15))))] | rw [if_pos (show isBlk b = true from decide_eq_true (Or.inr (Or.inr (Or.inr (Or.inl c21)))))] | rw [if_pos (show isBlk b = true from decide_eq_true (Or.inr (Or.inr (Or.inr (Or.inr c27)))))] | rw [if_neg (show ¬ isBlk b = true from fun z => by rcases of_decide_eq_true z with z | z | z | z | z; exact c3 z; exact c9 z; exact c15 z; exact c21 z; exact c27 z)]), rfl⟩
        · refine v_iload_n X (dk D_Rf_isBlank 12 rfl) rfl ?_
          refine v_bipush (v := 13) X (dk D_Rf_isBlank 13 rfl) (by decide) ?_
          refine v_icmp_ne (tgt := 34) X (dk D_Rf_isBlank 14 rfl) (by decide) (fun c27 => ?_) (fun c27 => ?_)
          · refine v_iconst (v := 0) X (dk D_Rf_isBlank 17 rfl) (by decide) ?_
            exact v_zret X hlk hrt rfl (dk D_Rf_isBlank 18 rfl) ⟨congrArg (fun z => some (Value.int z)) (by first | rw [if_pos (show isBlk b = true from decide_eq_true (Or.inl c3))] | rw [if_pos (show isBlk b = true from decide_eq_true (Or.inr (Or.inl c9)))] | rw [if_pos (show isBlk b = true from decide_eq_true (Or.inr (Or.inr (Or.inl c15))))] | rw [if_pos (show isBlk b = true from decide_eq_true (Or.inr (Or.inr (Or.inr (Or.inl c21)))))] | rw [if_pos (show isBlk b = true from decide_eq_true (Or.inr (Or.inr (Or.inr (Or.inr c27)))))] | rw [if_neg (show ¬ isBlk b = true from fun z => by rcases of_decide_eq_true z with z | z | z | z | z; exact c3 z; exact c9 z; exact c15 z; exact c21 z; exact c27 z)]), rfl⟩
          · refine v_iconst (v := 1) X (dk D_Rf_isBlank 15 rfl) (by decide) ?_
            refine v_goto (tgt := 35) X (dk D_Rf_isBlank 16 rfl) (by decide) ?_
            exact v_zret X hlk hrt rfl (dk D_Rf_isBlank 18 rfl) ⟨congrArg (fun z => some (Value.int z)) (by first | rw [if_pos (show isBlk b = true from decide_eq_true (Or.inl c3))] | rw [if_pos (show isBlk b = true from decide_eq_true (Or.inr (Or.inl c9)))] | rw [if_pos (show isBlk b = true from decide_eq_true (Or.inr (Or.inr (Or.inl c15))))] | rw [if_pos (show isBlk b = true from decide_eq_true (Or.inr (Or.inr (Or.inr (Or.inl c21)))))] | rw [if_pos (show isBlk b = true from decide_eq_true (Or.inr (Or.inr (Or.inr (Or.inr c27)))))] | rw [if_neg (show ¬ isBlk b = true from fun z => by rcases of_decide_eq_true z with z | z | z | z | z; exact c3 z; exact c9 z; exact c15 z; exact c21 z; exact c27 z)]), rfl⟩
theorem rtk_f {g w : mu_T} {fu : Nat} {u : Int32} {us : List Int32} {m f nn : Nat} (hI : RQ g fu (u :: us, m, f + 1, nn)) (he : gI g 1003 2 = 0) (z : rs g w [2, 3, 4, 8, 9, 10, 11] []) (hm2 : (if us.length < m then m - 1 else m) ≤ us.length) (w2 : gI w 1003 2 = gI g 1003 2) (w8 : gI w 1003 8 = nI (32768 - us.length)) (w9 : gI w 1003 9 = nI (if us.length < m then m - 1 else m)) (w10 : gI w 1003 10 = nI (nn + (if us.length < m ∧ u &&& 255 = 10 then 1 else 0) + 1)) (w11 : gI w 1003 11 = nI f) (w4 : gI w 1003 4 = nI (fu - f)) : (some (Value.int (u &&& 255)) : Option Value) = some (.int (tkV (u :: us, m, f + 1, nn))) ∧ rs g w [2, 3, 4, 8, 9, 10, 11] [] ∧ RQ w fu (tkI (u :: us, m, f + 1, nn)) ∧ gI w 1003 2 = (if tkV (u :: us, m, f + 1, nn) < 0 then 31 else 0) ∧ (tkV (u :: us, m, f + 1, nn) < 0 → gI w 1003 3 = nI (nn + 1)) := by
  obtain ⟨h1, h2, h3, h4, h5, h6, h7, h8, h9, h10⟩ := hI
  have h2 : us.length + 1 ≤ 32768 := h2
  have h5 : m ≤ us.length + 1 := h5
  have h9 : f + 1 ≤ fu := h9
  have hv : ¬ tkV (u :: us, m, f + 1, nn) < 0 := Int32.not_lt.mpr (and255_pos u)
  refine ⟨rfl, z, ?_, by rw [w2, he, if_neg hv], fun h => absurd h hv⟩
  rw [tkI_of h5]
  refine ⟨w8, by show us.length ≤ 32768; omega, fun j hj => ?_, w9, hm2, w10, w11, w4, by show f ≤ fu; omega, h10⟩
  have hj : j < us.length := hj
  rw [z.row (by decide) (by decide)]
  have := h3 (j + 1) (by show j + 1 < us.length + 1; omega)
  rw [show 32768 - (u :: us).length + (j + 1) = 32768 - us.length + j by rw [List.length_cons]; omega] at this
  exact this
theorem rtk_a {g : mu_T} {fu : Nat} {u : Int32} {us : List Int32} {m f nn : Nat} (hI : RQ g fu (u :: us, m, f + 1, nn)) (he : gI g 1003 2 = 0) (hm : ¬ us.length < m) : (some (Value.int (u &&& 255)) : Option Value) = some (.int (tkV (u :: us, m, f + 1, nn))) ∧ rs g (xI (xI (xI g 1003 11 (nI f)) 1003 4 (nI (fu - f))) 1003 8 (nI (32768 - us.length))) [2, 3, 4, 8, 9, 10, 11] [] ∧ RQ (xI (xI (xI g 1003 11 (nI f)) 1003 4 (nI (fu - f))) 1003 8 (nI (32768 - us.length))) fu (tkI (u :: us, m, f + 1, nn)) ∧ gI (xI (xI (xI g 1003 11 (nI f)) 1003 4 (nI (fu - f))) 1003 8 (nI (32768 - us.length))) 1003 2 = (if tkV (u :: us, m, f + 1, nn) < 0 then 31 else 0) ∧ (tkV (u :: us, m, f + 1, nn) < 0 → gI (xI (xI (xI g 1003 11 (nI f)) 1003 4 (nI (fu - f))) 1003 8 (nI (32768 - us.length))) 1003 3 = nI (nn + 1)) := by
  obtain ⟨h1, h2, h3, h4, h5, h6, h7, h8, h9, h10⟩ := id hI
  have h5 : m ≤ us.length + 1 := h5
  exact rtk_f hI he ((((rs.rf g _ _).fI (by decide)).fI (by decide)).fI (by decide)) (by rw [if_neg hm]; omega) ((gI_nk (by decide)).trans ((gI_nk (by decide)).trans ((gI_nk (by decide)).trans (rfl)))) (gI_eq _ _ _ _) (by rw [if_neg hm]; exact (gI_nk (by decide)).trans ((gI_nk (by decide)).trans ((gI_nk (by decide)).trans (h4)))) (by rw [if_neg (fun z => hm z.1), Nat.add_zero]; exact (gI_nk (by decide)).trans ((gI_nk (by decide)).trans ((gI_nk (by decide)).trans (h6)))) ((gI_nk (by decide)).trans ((gI_nk (by decide)).trans (gI_eq _ _ _ _))) ((gI_nk (by decide)).trans (gI_eq _ _ _ _))
theorem rtk_b {g : mu_T} {fu : Nat} {u : Int32} {us : List Int32} {m f nn : Nat} (hI : RQ g fu (u :: us, m, f + 1, nn)) (he : gI g 1003 2 = 0) (hm : us.length < m) (hb : ¬ u &&& 255 = 10) : (some (Value.int (u &&& 255)) : Option Value) = some (.int (tkV (u :: us, m, f + 1, nn))) ∧ rs g (xI (xI (xI (xI (xI g 1003 11 (nI f)) 1003 4 (nI (fu - f))) 1003 9 (nI (m - 1))) 1003 10 (nI (nn + 1))) 1003 8 (nI (32768 - us.length))) [2, 3, 4, 8, 9, 10, 11] [] ∧ RQ (xI (xI (xI (xI (xI g 1003 11 (nI f)) 1003 4 (nI (fu - f))) 1003 9 (nI (m - 1))) 1003 10 (nI (nn + 1))) 1003 8 (nI (32768 - us.length))) fu (tkI (u :: us, m, f + 1, nn)) ∧ gI (xI (xI (xI (xI (xI g 1003 11 (nI f)) 1003 4 (nI (fu - f))) 1003 9 (nI (m - 1))) 1003 10 (nI (nn + 1))) 1003 8 (nI (32768 - us.length))) 1003 2 = (if tkV (u :: us, m, f + 1, nn) < 0 then 31 else 0) ∧ (tkV (u :: us, m, f + 1, nn) < 0 → gI (xI (xI (xI (xI (xI g 1003 11 (nI f)) 1003 4 (nI (fu - f))) 1003 9 (nI (m - 1))) 1003 10 (nI (nn + 1))) 1003 8 (nI (32768 - us.length))) 1003 3 = nI (nn + 1)) := by
  obtain ⟨h1, h2, h3, h4, h5, h6, h7, h8, h9, h10⟩ := id hI
  have h5 : m ≤ us.length + 1 := h5
  exact rtk_f hI he ((((((rs.rf g _ _).fI (by decide)).fI (by decide)).fI (by decide)).fI (by decide)).fI (by decide)) (by rw [if_pos hm]; omega) ((gI_nk (by decide)).trans ((gI_nk (by decide)).trans ((gI_nk (by decide)).trans ((gI_nk (by decide)).trans ((gI_nk (by decide)).trans (rfl)))))) (gI_eq _ _ _ _) (by rw [if_pos hm]; exact (gI_nk (by decide)).trans ((gI_nk (by decide)).trans (gI_eq _ _ _ _))) (by rw [if_neg (fun z => hb z.2), Nat.add_zero]; exact (gI_nk (by decide)).trans (gI_eq _ _ _ _)) ((gI_nk (by decide)).trans ((gI_nk (by decide)).trans ((gI_nk (by decide)).trans ((gI_nk (by decide)).trans (gI_eq _ _ _ _))))) ((gI_nk (by decide)).trans ((gI_nk (by decide)).trans ((gI_nk (by decide)).trans (gI_eq _ _ _ _))))
theorem rtk_c {g : mu_T} {fu : Nat} {u : Int32} {us : List Int32} {m f nn : Nat} (hI : RQ g fu (u :: us, m, f + 1, nn)) (he : gI g 1003 2 = 0) (hm : us.length < m) (hb : u &&& 255 = 10) : (some (Value.int (u &&& 255)) : Option Value) = some (.int (tkV (u :: us, m, f + 1, nn))) ∧ rs g (xI (xI (xI (xI (xI g 1003 11 (nI f)) 1003 4 (nI (fu - f))) 1003 9 (nI (m - 1))) 1003 10 (nI (nn + 1 + 1))) 1003 8 (nI (32768 - us.length))) [2, 3, 4, 8, 9, 10, 11] [] ∧ RQ (xI (xI (xI (xI (xI g 1003 11 (nI f)) 1003 4 (nI (fu - f))) 1003 9 (nI (m - 1))) 1003 10 (nI (nn + 1 + 1))) 1003 8 (nI (32768 - us.length))) fu (tkI (u :: us, m, f + 1, nn)) ∧ gI (xI (xI (xI (xI (xI g 1003 11 (nI f)) 1003 4 (nI (fu - f))) 1003 9 (nI (m - 1))) 1003 10 (nI (nn + 1 + 1))) 1003 8 (nI (32768 - us.length))) 1003 2 = (if tkV (u :: us, m, f + 1, nn) < 0 then 31 else 0) ∧ (tkV (u :: us, m, f + 1, nn) < 0 → gI (xI (xI (xI (xI (xI g 1003 11 (nI f)) 1003 4 (nI (fu - f))) 1003 9 (nI (m - 1))) 1003 10 (nI (nn + 1 + 1))) 1003 8 (nI (32768 - us.length))) 1003 3 = nI (nn + 1)) := by
  obtain ⟨h1, h2, h3, h4, h5, h6, h7, h8, h9, h10⟩ := id hI
  have h5 : m ≤ us.length + 1 := h5
  exact rtk_f hI he ((((((rs.rf g _ _).fI (by decide)).fI (by decide)).fI (by decide)).fI (by decide)).fI (by decide)) (by rw [if_pos hm]; omega) ((gI_nk (by decide)).trans ((gI_nk (by decide)).trans ((gI_nk (by decide)).trans ((gI_nk (by decide)).trans ((gI_nk (by decide)).trans (rfl)))))) (gI_eq _ _ _ _) (by rw [if_pos hm]; exact (gI_nk (by decide)).trans ((gI_nk (by decide)).trans (gI_eq _ _ _ _))) (by rw [if_pos ⟨hm, hb⟩]; exact (gI_nk (by decide)).trans (gI_eq _ _ _ _)) ((gI_nk (by decide)).trans ((gI_nk (by decide)).trans ((gI_nk (by decide)).trans ((gI_nk (by decide)).trans (gI_eq _ _ _ _))))) ((gI_nk (by decide)).trans ((gI_nk (by decide)).trans ((gI_nk (by decide)).trans (gI_eq _ _ _ _))))
set_option maxHeartbeats 4000000 in
set_option maxRecDepth 100000 in
theorem r_take (l : Launch) (q : ev_T) {fu : Nat} {I : Ip} {g : mu_T} (hS : Shp g) (hI : RQ g fu I) (hne : ¬ I.1 = []) (he : gI g 1003 2 = 0) : Ctr l q M_Rf_take 2 [.ref 1003] (0, 0, g) (fun v w => v = some (.int (tkV I)) ∧ rs g w.2.2 [2, 3, 4, 8, 9, 10, 11] [] ∧ RQ w.2.2 fu (tkI I) ∧ gI w.2.2 1003 2 = (if tkV I < 0 then 31 else 0) ∧ (tkV I < 0 → gI w.2.2 1003 3 = nI (I.2.2.2 + 1))) := by
  obtain ⟨us0, m, f0, nn⟩ := I
  obtain ⟨u, us, rfl⟩ : ∃ u us, us0 = u :: us := by
    cases us0 with
    | nil => exact absurd rfl hne
    | cons u us => exact ⟨u, us, rfl⟩
  obtain ⟨k1, k2, k3, k4, k5, k6, k7, k8, k9, h10⟩ := id hI
  have h2 : us.length + 1 ≤ 32768 := k2
  have h5 : m ≤ us.length + 1 := k5
  have h9 : f0 ≤ fu := k9
  have h1 : gI g 1003 8 = nI (32768 - (us.length + 1)) := k1
  have h4 : gI g 1003 9 = nI m := k4
  have h6 : gI g 1003 10 = nI (nn + 1) := k6
  have h7 : gI g 1003 11 = nI f0 := k7
  have h8 : gI g 1003 4 = nI (fu - f0) := k8
  have h3 : ∀ j, j < (u :: us).length → gI g 1006 (32768 - (us.length + 1) + j) = (u :: us).getD j 0 := k3
  refine Ctr.mk (lb := [some (.ref 1003), none]) (by decide +kernel) (Nat.le_of_ble_eq_true rfl) rfl rfl ?_
  intro pp ee ss mm aa bb mt cd X hrt hlk hnm
  cases f0 with
  | zero =>
    refine v_aload_n X (dk D_Rf_take 0 rfl) rfl ?_
    refine v_getI X (dk D_Rf_take 1 rfl) F_Rf_81 rfl rfl (hS.lt (by decide)) ?_
    refine v_if_ne (tgt := 15) X (dk D_Rf_take 2 rfl) (by decide) (fun c4 => absurd (by rw [h7]; rfl) c4) (fun _ => ?_)
    refine v_aload_n X (dk D_Rf_take 3 rfl) rfl ?_
    refine v_bipush (v := 31) X (dk D_Rf_take 4 rfl) (by decide) ?_
    refine v_invV (As := [.int 31]) (st := []) X (r_fail1 l q (n := 31) hS) (dk D_Rf_take 5 rfl) G_Rf_84 K_Rf_fail1 V_Rf_fail1 rfl rfl (hS.lt (by decide)) rfl rfl (Nat.le_of_ble_eq_true rfl) (Nat.le_of_ble_eq_true rfl) (Nat.le_of_ble_eq_true rfl) (Nat.le_of_ble_eq_true rfl) (Nat.le_of_ble_eq_true rfl) ?_
    rintro v w ⟨rfl, hw⟩
    rw [if_pos he] at hw
    rw [hw]
    show Vv _ _ _ _ _ _ _ _ _ _ _ _ _ _ _ [] (0, 0, xI (xI g 1003 2 31) 1003 3 (gI g 1003 10))
    refine v_iconst (v := -1) X (dk D_Rf_take 6 rfl) (by decide) ?_
    exact v_iret X hlk hrt (dk D_Rf_take 7 rfl) (by have hz : rs g (xI (xI g 1003 2 31) 1003 3 (gI g 1003 10)) [2, 3, 4, 8, 9, 10, 11] [] := ((rs.rf g _ _).fI (by decide)).fI (by decide); exact ⟨rfl, hz, RQ.rs (show RQ g fu (u :: us, m, 0, nn) from hI) (show rs g (xI (xI g 1003 2 31) 1003 3 (gI g 1003 10)) [2, 3] [] from ((rs.rf g _ _).fI (by decide)).fI (by decide)) (by decide) (by decide), (gI_nk (by decide)).trans ((gI_eq _ _ _ _).trans (if_pos (show (-1 : Int32) < 0 by decide)).symm), fun _ => (gI_eq _ _ _ _).trans h6⟩)
  | succ f =>
    refine v_aload_n X (dk D_Rf_take 0 rfl) rfl ?_
    refine v_getI X (dk D_Rf_take 1 rfl) F_Rf_81 rfl rfl (hS.lt (by decide)) ?_
    refine v_if_ne (tgt := 15) X (dk D_Rf_take 2 rfl) (by decide) (fun _ => ?_) (fun c4 => absurd c4 (by rw [h7]; exact nI_ne0 (by omega) (by omega)))
    refine v_aload_n X (dk D_Rf_take 8 rfl) rfl ?_
    refine v_dup X (dk D_Rf_take 9 rfl) rfl ?_
    refine v_getI X (dk D_Rf_take 10 rfl) F_Rf_81 rfl rfl (hS.lt (by decide)) ?_
    rw [h7]
    refine v_iconst (v := nI 1) X (dk D_Rf_take 11 rfl) (by decide) ?_
    refine v_isub X (dk D_Rf_take 12 rfl) ?_
    rw [show nI (f + 1) - nI 1 = nI f from pk_sub (by omega)]
    refine v_putI X (dk D_Rf_take 13 rfl) F_Rf_81 CK_Rf rfl rfl (hS.lt (by decide)) rfl rfl ?_
    refine v_aload_n X (dk D_Rf_take 14 rfl) rfl ?_
    refine v_dup X (dk D_Rf_take 15 rfl) rfl ?_
    refine v_getI X (dk D_Rf_take 16 rfl) F_Rf_88 rfl rfl (hS.lt (by decide)) ?_
    rw [gI_nk (by decide), h8]
    refine v_iconst (v := nI 1) X (dk D_Rf_take 17 rfl) (by decide) ?_
    refine v_iadd X (dk D_Rf_take 18 rfl) ?_
    rw [nI_add, show fu - (f + 1) + 1 = fu - f by omega]
    refine v_putI X (dk D_Rf_take 19 rfl) F_Rf_88 CK_Rf rfl rfl (hS.lt (by decide)) rfl rfl ?_
    refine v_aload_n X (dk D_Rf_take 20 rfl) rfl ?_
    refine v_getF X (dk D_Rf_take 21 rfl) F_Rf_17 rfl rfl (hS.lt (by decide)) (hS.2 1003 7) ?_
    refine v_aload_n X (dk D_Rf_take 22 rfl) rfl ?_
    refine v_getI X (dk D_Rf_take 23 rfl) F_Rf_78 rfl rfl (hS.lt (by decide)) ?_
    refine v_bald X (dk D_Rf_take 24 rfl) rfl (hS.lt (by decide)) (by rw [gI_nk (by decide), gI_nk (by decide), h1]; exact vp_in_nI (show 32768 - (us.length + 1) < 32768 by omega) (by decide)) ?_
    rw [show gI (xI (xI g 1003 11 (nI f)) 1003 4 (nI (fu - f))) 1003 8 = nI (32768 - (us.length + 1)) from (gI_nk (by decide)).trans ((gI_nk (by decide)).trans h1), nI_clamp (by omega), show gI (xI (xI g 1003 11 (nI f)) 1003 4 (nI (fu - f))) 1006 (32768 - (us.length + 1)) = u from (gI_na (by decide)).trans ((gI_na (by decide)).trans (h3 0 (by simp)))]
    refine v_sipush (v := 255) X (dk D_Rf_take 25 rfl) (by decide) ?_
    refine v_iand X (dk D_Rf_take 26 rfl) ?_
    refine v_istore_n (lb := [some (.ref 1003), some (.int (u &&& 255))]) X (dk D_Rf_take 27 rfl) (by decide) rfl ?_
    refine v_ldc X (dk D_Rf_take 28 rfl) C_Rf_9 ?_
    refine v_aload_n X (dk D_Rf_take 29 rfl) rfl ?_
    refine v_getI X (dk D_Rf_take 30 rfl) F_Rf_78 rfl rfl (hS.lt (by decide)) ?_
    rw [gI_nk (by decide), gI_nk (by decide), h1]
    refine v_isub X (dk D_Rf_take 31 rfl) ?_
    rw [show (32768 : Int32) - nI (32768 - (us.length + 1)) = nI (us.length + 1) from by rw [show (32768 : Int32) = nI 32768 from rfl, pk_sub (by omega)]; exact congrArg nI (by omega)]
    refine v_aload_n X (dk D_Rf_take 32 rfl) rfl ?_
    refine v_getI X (dk D_Rf_take 33 rfl) F_Rf_91 rfl rfl (hS.lt (by decide)) ?_
    rw [gI_nk (by decide), gI_nk (by decide), h4]
    refine v_icmp_gt (tgt := 96) X (dk D_Rf_take 34 rfl) (by decide) (fun c60 => ?_) (fun c60 => ?_)
    · have hm : ¬ us.length < m := fun z => absurd c60 (nI_nlt (by omega) (by omega))
      refine v_aload_n X (dk D_Rf_take 53 rfl) rfl ?_
      refine v_dup X (dk D_Rf_take 54 rfl) rfl ?_
      refine v_getI X (dk D_Rf_take 55 rfl) F_Rf_78 rfl rfl (hS.lt (by decide)) ?_
      rw [show gI _ 1003 8 = nI (32768 - (us.length + 1)) from by first | exact (gI_nk (by decide)).trans ((gI_nk (by decide)).trans h1) | exact (gI_nk (by decide)).trans ((gI_nk (by decide)).trans ((gI_nk (by decide)).trans ((gI_nk (by decide)).trans h1)))]
      refine v_iconst (v := nI 1) X (dk D_Rf_take 56 rfl) (by decide) ?_
      refine v_iadd X (dk D_Rf_take 57 rfl) ?_
      rw [nI_add, show 32768 - (us.length + 1) + 1 = 32768 - us.length by omega]
      refine v_putI X (dk D_Rf_take 58 rfl) F_Rf_78 CK_Rf rfl rfl (hS.lt (by decide)) rfl rfl ?_
      refine v_iload_n X (dk D_Rf_take 59 rfl) rfl ?_
      exact v_iret X hlk hrt (dk D_Rf_take 60 rfl) (rtk_a hI he hm)
    · have hm : us.length < m := Decidable.byContradiction (fun z => c60 (nI_lt (by omega) (by omega)))
      refine v_aload_n X (dk D_Rf_take 35 rfl) rfl ?_
      refine v_dup X (dk D_Rf_take 36 rfl) rfl ?_
      refine v_getI X (dk D_Rf_take 37 rfl) F_Rf_91 rfl rfl (hS.lt (by decide)) ?_
      rw [gI_nk (by decide), gI_nk (by decide), h4]
      refine v_iconst (v := nI 1) X (dk D_Rf_take 38 rfl) (by decide) ?_
      refine v_isub X (dk D_Rf_take 39 rfl) ?_
      rw [pk_sub (by omega)]
      refine v_putI X (dk D_Rf_take 40 rfl) F_Rf_91 CK_Rf rfl rfl (hS.lt (by decide)) rfl rfl ?_
      refine v_aload_n X (dk D_Rf_take 41 rfl) rfl ?_
      refine v_iload_n X (dk D_Rf_take 42 rfl) rfl ?_
      refine v_bipush (v := 10) X (dk D_Rf_take 43 rfl) (by decide) ?_
      refine v_icmp_ne (tgt := 89) X (dk D_Rf_take 44 rfl) (by decide) (fun c77 => ?_) (fun c77 => ?_)
      · refine v_aload_n X (dk D_Rf_take 50 rfl) rfl ?_
        refine v_getI X (dk D_Rf_take 51 rfl) F_Rf_94 rfl rfl (hS.lt (by decide)) ?_
        rw [show gI (xI (xI (xI g 1003 11 (nI f)) 1003 4 (nI (fu - f))) 1003 9 (nI (m - 1))) 1003 10 = nI (nn + 1) from (gI_nk (by decide)).trans ((gI_nk (by decide)).trans ((gI_nk (by decide)).trans h6))]
        refine v_putI X (dk D_Rf_take 52 rfl) F_Rf_94 CK_Rf rfl rfl (hS.lt (by decide)) rfl rfl ?_
        refine v_aload_n X (dk D_Rf_take 53 rfl) rfl ?_
        refine v_dup X (dk D_Rf_take 54 rfl) rfl ?_
        refine v_getI X (dk D_Rf_take 55 rfl) F_Rf_78 rfl rfl (hS.lt (by decide)) ?_
        rw [show gI _ 1003 8 = nI (32768 - (us.length + 1)) from by first | exact (gI_nk (by decide)).trans ((gI_nk (by decide)).trans h1) | exact (gI_nk (by decide)).trans ((gI_nk (by decide)).trans ((gI_nk (by decide)).trans ((gI_nk (by decide)).trans h1)))]
        refine v_iconst (v := nI 1) X (dk D_Rf_take 56 rfl) (by decide) ?_
        refine v_iadd X (dk D_Rf_take 57 rfl) ?_
        rw [nI_add, show 32768 - (us.length + 1) + 1 = 32768 - us.length by omega]
        refine v_putI X (dk D_Rf_take 58 rfl) F_Rf_78 CK_Rf rfl rfl (hS.lt (by decide)) rfl rfl ?_
        refine v_iload_n X (dk D_Rf_take 59 rfl) rfl ?_
        exact v_iret X hlk hrt (dk D_Rf_take 60 rfl) (rtk_b hI he hm c77)
      · refine v_aload_n X (dk D_Rf_take 45 rfl) rfl ?_
        refine v_getI X (dk D_Rf_take 46 rfl) F_Rf_94 rfl rfl (hS.lt (by decide)) ?_
        rw [show gI (xI (xI (xI g 1003 11 (nI f)) 1003 4 (nI (fu - f))) 1003 9 (nI (m - 1))) 1003 10 = nI (nn + 1) from (gI_nk (by decide)).trans ((gI_nk (by decide)).trans ((gI_nk (by decide)).trans h6))]
        refine v_iconst (v := nI 1) X (dk D_Rf_take 47 rfl) (by decide) ?_
        refine v_iadd X (dk D_Rf_take 48 rfl) ?_
        rw [nI_add]
        refine v_goto (tgt := 93) X (dk D_Rf_take 49 rfl) (by decide) ?_
        refine v_putI X (dk D_Rf_take 52 rfl) F_Rf_94 CK_Rf rfl rfl (hS.lt (by decide)) rfl rfl ?_
        refine v_aload_n X (dk D_Rf_take 53 rfl) rfl ?_
        refine v_dup X (dk D_Rf_take 54 rfl) rfl ?_
        refine v_getI X (dk D_Rf_take 55 rfl) F_Rf_78 rfl rfl (hS.lt (by decide)) ?_
        rw [show gI _ 1003 8 = nI (32768 - (us.length + 1)) from by first | exact (gI_nk (by decide)).trans ((gI_nk (by decide)).trans h1) | exact (gI_nk (by decide)).trans ((gI_nk (by decide)).trans ((gI_nk (by decide)).trans ((gI_nk (by decide)).trans h1)))]
        refine v_iconst (v := nI 1) X (dk D_Rf_take 56 rfl) (by decide) ?_
        refine v_iadd X (dk D_Rf_take 57 rfl) ?_
        rw [nI_add, show 32768 - (us.length + 1) + 1 = 32768 - us.length by omega]
        refine v_putI X (dk D_Rf_take 58 rfl) F_Rf_78 CK_Rf rfl rfl (hS.lt (by decide)) rfl rfl ?_
        refine v_iload_n X (dk D_Rf_take 59 rfl) rfl ?_
        exact v_iret X hlk hrt (dk D_Rf_take 60 rfl) (rtk_c hI he hm c77)
