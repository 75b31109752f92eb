/-! Input: readToken, useFirstQuotes -/
/-- the next token: its kind, the error, what is left, its bytes -/
def rdT (op cl : List Int32) (I : Ip) : Int32 × Int32 × Ip × List Int32 := if I.1 = [] then (0, 0, I, []) else if bgn I.1 op = true then (1, rdQ0 op cl I) else if atL I.1 (nI 0) = 35 then (2, rdR 32768 I) else if isLet (atL I.1 (nI 0)) = true then (3, rdN 32768 I) else (4, if tkV I < 0 then 31 else 0, tkI I, if tkV I < 0 then [] else [I.1.getD 0 0])
theorem at0_neg {u : List Int32} (hl : u.length ≤ 32768) : (0 ≤ atL u (nI 0)) ↔ ¬ u = [] := by
  cases u with
  | nil => rw [atL_out (xs := []) (j := 0) (by decide) (by decide)]; exact ⟨fun h => absurd h (by decide), fun h => absurd rfl h⟩
  | cons x u =>
    rw [atL_nI (Nat.succ_pos _) (by omega)]
    exact ⟨fun _ => List.cons_ne_nil _ _, fun _ => and255_pos _⟩
set_option maxHeartbeats 4000000 in
set_option maxRecDepth 100000 in
theorem k_readToken (l : Launch) (q : ev_T) {fu : Nat} {I : Ip} {xs op cl : List Int32} {ov oo oc : Bool} {g : mu_T} (hS : Shp g) (hI : IQ g fu I) (hX : RB g 12 13 32768 xs ov) (hO : RB g 8 9 4 op oo) (hC : RB g 10 11 4 cl oc) : Ctr l q M_In_readToken 4 [.ref 7] (0, 0, g) (fun v w => v = some (.int (rdT op cl I).2.1) ∧ sm g w.2.2 [7, 12, 13] ∧ IQ w.2.2 fu (rdT op cl I).2.2.1 ∧ gI w.2.2 7 3 = (rdT op cl I).1 ∧ gI w.2.2 7 4 = nI (I.2.2.2 + 1) ∧ RB w.2.2 12 13 32768 (rdT op cl I).2.2.2 false) := by

  refine Ctr.mk (lb := [some (.ref 7), none]) (by decide +kernel) (Nat.le_of_ble_eq_true rfl) rfl rfl ?_
  intro pp ee ss mm aa bb mt cd X hrt hlk hnm
  refine v_aload_n X (dk D_In_readToken 0 rfl) rfl ?_
  refine v_getF X (dk D_In_readToken 1 rfl) F_In_24 rfl rfl (hS.lt (by decide)) (hS.2 7 2) ?_
  refine v_iconst (v := 0) X (dk D_In_readToken 2 rfl) (by decide) ?_
  refine v_invV (As := [.int 0]) (st := []) X (k_cut0 l q hX) (dk D_In_readToken 3 rfl) G_In_53 K_By_cut V_By_cut rfl rfl (hS.lt (by decide)) rfl rfl (Nat.le_of_ble_eq_true rfl) (Nat.le_of_ble_eq_true rfl) (Nat.le_of_ble_eq_true rfl) (Nat.le_of_ble_eq_true rfl) (Nat.le_of_ble_eq_true rfl) ?_
  rintro v w0 ⟨rfl, hc1, hc2⟩
  have hS1 := hS.sm hc1
  have hI1 := hI.sm hc1 (by decide) (by decide) (by decide) (by decide)
  show Vv _ _ _ _ _ _ _ _ _ _ _ _ _ _ _ [] (0, 0, w0.2.2)
  refine v_aload_n X (dk D_In_readToken 4 rfl) rfl ?_
  refine v_aload_n X (dk D_In_readToken 5 rfl) rfl ?_
  refine v_invV (As := []) (st := [.ref 7]) X (k_line l q hS1 hI1) (dk D_In_readToken 6 rfl) G_In_86 K_In_line V_In_line rfl rfl (hS1.lt (by decide)) rfl rfl (Nat.le_of_ble_eq_true rfl) (Nat.le_of_ble_eq_true rfl) (Nat.le_of_ble_eq_true rfl) (Nat.le_of_ble_eq_true rfl) (Nat.le_of_ble_eq_true rfl) ?_
  rintro v w ⟨rfl, hw⟩
  rw [hw]
  show Vv _ _ _ _ _ _ _ _ _ _ _ _ _ _ _ [.int (nI (I.2.2.2 + 1)), .ref 7] (0, 0, w0.2.2)
  refine v_putI X (dk D_In_readToken 7 rfl) F_In_89 CK_In rfl rfl (hS1.lt (by decide)) rfl rfl ?_
  have z2 : sm g (xI w0.2.2 7 4 (nI (I.2.2.2 + 1))) [12, 7] := (hc1.mono (by decide)).xI (by decide)
  have hS2 := hS.sm z2
  have hI2 : IQ (xI w0.2.2 7 4 (nI (I.2.2.2 + 1))) fu I := hI1.kt 4 _ (by decide)
  have hX2 : RB (xI w0.2.2 7 4 (nI (I.2.2.2 + 1))) 12 13 32768 [] false := hc2.sm ((sm.rf _ [7]).xI (by simp)) (by decide) (by decide)
  have hO2 := hO.sm z2 (by decide) (by decide)
  have hC2 := hC.sm z2 (by decide) (by decide)
  have hlen := hI.len
  have hxl2 : ([] : List Int32).length + I.1.length ≤ 32768 := by rw [List.length_nil, Nat.zero_add]; exact hlen
  have h4 : gI (xI w0.2.2 7 4 (nI (I.2.2.2 + 1))) 7 4 = nI (I.2.2.2 + 1) := gI_eq _ _ _ _
  obtain ⟨g2, hg2⟩ : ∃ g2, g2 = (xI w0.2.2 7 4 (nI (I.2.2.2 + 1))) := ⟨_, rfl⟩
  rw [← hg2] at z2 hS2 hI2 hX2 hO2 hC2 h4 ⊢
  refine v_aload_n X (dk D_In_readToken 8 rfl) rfl ?_
  refine v_iconst (v := nI 0) X (dk D_In_readToken 9 rfl) (by decide) ?_
  refine v_invV (As := [.int (nI 0)]) (st := []) X (k_peek l q (k := 0) hS2 hI2 (by decide)) (dk D_In_readToken 10 rfl) G_In_92 K_In_peek V_In_peek rfl rfl (hS2.lt (by decide)) rfl rfl (Nat.le_of_ble_eq_true rfl) (Nat.le_of_ble_eq_true rfl) (Nat.le_of_ble_eq_true rfl) (Nat.le_of_ble_eq_true rfl) (Nat.le_of_ble_eq_true rfl) ?_
  rintro v w ⟨rfl, hw⟩
  rw [hw]
  show Vv _ _ _ _ _ _ _ _ _ _ _ _ _ _ _ [.int (atL I.1 (nI 0))] (0, 0, g2)
  refine v_istore_n (lb := [some (.ref 7), some (.int (atL I.1 (nI 0)))]) X (dk D_In_readToken 11 rfl) (by decide) rfl ?_
  refine v_iload_n X (dk D_In_readToken 12 rfl) rfl ?_
  refine v_if_ge (tgt := 33) X (dk D_In_readToken 13 rfl) (by decide) (fun c23 => ?_) (fun c23 => ?_)
  · refine v_aload_n X (dk D_In_readToken 19 rfl) rfl ?_
    refine v_aload_n X (dk D_In_readToken 20 rfl) rfl ?_
    refine v_getF X (dk D_In_readToken 21 rfl) F_In_14 rfl rfl (hS2.lt (by decide)) (hS2.2 7 0) ?_
    refine v_invV (As := [.ref 8]) (st := []) X (k_begins l q hS2 hI2 hO2) (dk D_In_readToken 22 rfl) G_In_98 K_In_begins V_In_begins rfl rfl (hS2.lt (by decide)) rfl rfl (Nat.le_of_ble_eq_true rfl) (Nat.le_of_ble_eq_true rfl) (Nat.le_of_ble_eq_true rfl) (Nat.le_of_ble_eq_true rfl) (Nat.le_of_ble_eq_true rfl) ?_
    rintro v w ⟨rfl, hw⟩
    rw [hw]
    show Vv _ _ _ _ _ _ _ _ _ _ _ _ _ _ _ [.int (if bgn I.1 op = true then 1 else 0)] (0, 0, g2)
    refine v_if_eq (tgt := 49) X (dk D_In_readToken 23 rfl) (by decide) (fun c41 => ?_) (fun c41 => ?_)
    · refine v_iload_n X (dk D_In_readToken 27 rfl) rfl ?_
      refine v_bipush (v := 35) X (dk D_In_readToken 28 rfl) (by decide) ?_
      refine v_icmp_ne (tgt := 60) X (dk D_In_readToken 29 rfl) (by decide) (fun c52 => ?_) (fun c52 => ?_)
      · refine v_iload_n X (dk D_In_readToken 33 rfl) rfl ?_
        refine v_invS (As := [.int (atL I.1 (nI 0))]) (st := []) X (k_isLetter l q (b := atL I.1 (nI 0)) (g := g2)) (dk D_In_readToken 34 rfl) G_In_108 K_Mi_isLetter S_Mi_isLetter rfl rfl (Nat.le_of_ble_eq_true rfl) (Nat.le_of_ble_eq_true rfl) (Nat.le_of_ble_eq_true rfl) (Nat.le_of_ble_eq_true rfl) (Nat.le_of_ble_eq_true rfl) ?_
        rintro v w ⟨rfl, hw⟩
        rw [hw]
        show Vv _ _ _ _ _ _ _ _ _ _ _ _ _ _ _ [.int (if isLet (atL I.1 (nI 0)) = true then 1 else 0)] (0, 0, g2)
        refine v_if_eq (tgt := 72) X (dk D_In_readToken 35 rfl) (by decide) (fun c64 => ?_) (fun c64 => ?_)
        · refine v_aload_n X (dk D_In_readToken 39 rfl) rfl ?_
          refine v_iconst (v := 4) X (dk D_In_readToken 40 rfl) (by decide) ?_
          refine v_putI X (dk D_In_readToken 41 rfl) F_In_95 CK_In rfl rfl (hS2.lt (by decide)) rfl rfl ?_
          have z3 : sm g2 (xI g2 7 3 4) [7] := (sm.rf g2 _).xI (by simp)
          have hS3 := hS2.sm z3
          have hI3 := hI2.kt 3 4 (by decide)
          have hX3 := hX2.sm z3 (by decide) (by decide)
          refine v_aload_n X (dk D_In_readToken 42 rfl) rfl ?_
          refine v_iconst (v := 1) X (dk D_In_readToken 43 rfl) (by decide) ?_
          refine v_iconst (v := 1) X (dk D_In_readToken 44 rfl) (by decide) ?_
          refine v_invV (As := [.int 1, .int 1]) (st := []) X (k_take1 l q hS3 hI3 hX3 hxl2) (dk D_In_readToken 45 rfl) G_In_115 K_In_takeSome V_In_takeSome rfl rfl (hS3.lt (by decide)) rfl rfl (Nat.le_of_ble_eq_true rfl) (Nat.le_of_ble_eq_true rfl) (Nat.le_of_ble_eq_true rfl) (Nat.le_of_ble_eq_true rfl) (Nat.le_of_ble_eq_true rfl) ?_
          rintro v w ⟨rfl, y1, y2, y3, y5⟩
          show Vv _ _ _ _ _ _ _ _ _ _ _ _ _ _ _ [.int (if tkV I < 0 then 31 else 0)] (0, 0, w.2.2)
          exact v_iret X hlk hrt (dk D_In_readToken 46 rfl) (by rw [show rdT op cl I = (4, if tkV I < 0 then 31 else 0, tkI I, if tkV I < 0 then [] else [I.1.getD 0 0]) from (if_neg ((at0_neg hlen).mp c23)).trans ((if_neg (fun e => absurd c41 (by rw [if_pos e]; decide))).trans ((if_neg c52).trans (if_neg (fun e => absurd c64 (by rw [if_pos e]; decide)))))]; exact ⟨rfl, z2.tr (z3.tr y1 (U := [7, 12, 13]) (by decide) (fun _ z => z)) (by decide) (by decide), y2, y3.1.trans (gI_eq _ _ _ _), y3.2.trans ((gI_nk (by decide)).trans h4), by rw [List.nil_append] at y5; exact y5⟩)
        · refine v_aload_n X (dk D_In_readToken 36 rfl) rfl ?_
          refine v_invV (As := []) (st := []) X (k_readName l q hS2 hI2 hX2 hxl2) (dk D_In_readToken 37 rfl) G_In_112 K_In_readName V_In_readName rfl rfl (hS2.lt (by decide)) rfl rfl (Nat.le_of_ble_eq_true rfl) (Nat.le_of_ble_eq_true rfl) (Nat.le_of_ble_eq_true rfl) (Nat.le_of_ble_eq_true rfl) (Nat.le_of_ble_eq_true rfl) ?_
          rintro v w ⟨rfl, y1, y2, y3, y4, y5⟩
          show Vv _ _ _ _ _ _ _ _ _ _ _ _ _ _ _ [.int (rdN 32768 I).1] (0, 0, w.2.2)
          exact v_iret X hlk hrt (dk D_In_readToken 38 rfl) (by rw [show rdT op cl I = (3, rdN 32768 I) from (if_neg ((at0_neg hlen).mp c23)).trans ((if_neg (fun e => absurd c41 (by rw [if_pos e]; decide))).trans ((if_neg c52).trans (if_pos (Decidable.byContradiction (fun e => c64 (if_neg e))))))]; exact ⟨rfl, z2.tr y1 (by decide) (by decide), y2, y3, y4.trans h4, y5⟩)
      · refine v_aload_n X (dk D_In_readToken 30 rfl) rfl ?_
        refine v_invV (As := []) (st := []) X (k_readRemark l q hS2 hI2 hX2 hxl2) (dk D_In_readToken 31 rfl) G_In_105 K_In_readRemark V_In_readRemark rfl rfl (hS2.lt (by decide)) rfl rfl (Nat.le_of_ble_eq_true rfl) (Nat.le_of_ble_eq_true rfl) (Nat.le_of_ble_eq_true rfl) (Nat.le_of_ble_eq_true rfl) (Nat.le_of_ble_eq_true rfl) ?_
        rintro v w ⟨rfl, y1, y2, y3, y4, y5⟩
        show Vv _ _ _ _ _ _ _ _ _ _ _ _ _ _ _ [.int (rdR 32768 I).1] (0, 0, w.2.2)
        exact v_iret X hlk hrt (dk D_In_readToken 32 rfl) (by rw [show rdT op cl I = (2, rdR 32768 I) from (if_neg ((at0_neg hlen).mp c23)).trans ((if_neg (fun e => absurd c41 (by rw [if_pos e]; decide))).trans (if_pos c52))]; exact ⟨rfl, z2.tr y1 (by decide) (by decide), y2, y3, y4.trans h4, y5⟩)
    · refine v_aload_n X (dk D_In_readToken 24 rfl) rfl ?_
      refine v_invV (As := []) (st := []) X (k_readQuoted l q hS2 hI2 hX2 hxl2 hO2 hC2) (dk D_In_readToken 25 rfl) G_In_102 K_In_readQuoted V_In_readQuoted rfl rfl (hS2.lt (by decide)) rfl rfl (Nat.le_of_ble_eq_true rfl) (Nat.le_of_ble_eq_true rfl) (Nat.le_of_ble_eq_true rfl) (Nat.le_of_ble_eq_true rfl) (Nat.le_of_ble_eq_true rfl) ?_
      rintro v w ⟨rfl, y1, y2, y3, y4, y5⟩
      show Vv _ _ _ _ _ _ _ _ _ _ _ _ _ _ _ [.int (rdQ0 op cl I).1] (0, 0, w.2.2)
      exact v_iret X hlk hrt (dk D_In_readToken 26 rfl) (by rw [show rdT op cl I = (1, rdQ0 op cl I) from (if_neg ((at0_neg hlen).mp c23)).trans (if_pos (Decidable.byContradiction (fun e => c41 (if_neg e))))]; exact ⟨rfl, z2.tr y1 (by decide) (by decide), y2, y3, y4.trans h4, y5⟩)
  · refine v_aload_n X (dk D_In_readToken 14 rfl) rfl ?_
    refine v_iconst (v := 0) X (dk D_In_readToken 15 rfl) (by decide) ?_
    refine v_putI X (dk D_In_readToken 16 rfl) F_In_95 CK_In rfl rfl (hS2.lt (by decide)) rfl rfl ?_
    refine v_iconst (v := 0) X (dk D_In_readToken 17 rfl) (by decide) ?_
    exact v_iret X hlk hrt (dk D_In_readToken 18 rfl) (by rw [show rdT op cl I = (0, 0, I, []) from if_pos (Decidable.byContradiction (fun e => c23 ((at0_neg hlen).mpr e)))]; exact ⟨rfl, (z2.mono (by decide)).xI (by decide), hI2.kt 3 _ (by decide), gI_eq _ _ _ _, (gI_nk (by decide)).trans h4, hX2.sm ((sm.rf _ [7]).xI (by simp)) (by decide) (by decide)⟩)
set_option maxHeartbeats 4000000 in
set_option maxRecDepth 100000 in
theorem k_useFirstQuotes (l : Launch) (q : ev_T) {op cl : List Int32} {oo oc : Bool} {g : mu_T} (hS : Shp g) (hO : RB g 8 9 4 op oo) (hC : RB g 10 11 4 cl oc) : Ctr l q M_In_useFirstQuotes 1 [.ref 7] (0, 0, g) (fun v w => v = none ∧ sm g w.2.2 [8, 9, 10, 11] ∧ RB w.2.2 8 9 4 [96] false ∧ RB w.2.2 10 11 4 [39] false) := by

  refine Ctr.mk (lb := [some (.ref 7)]) (by decide +kernel) (Nat.le_of_ble_eq_true rfl) rfl rfl ?_
  intro pp ee ss mm aa bb mt cd X hrt hlk hnm
  refine v_aload_n X (dk D_In_useFirstQuotes 0 rfl) rfl ?_
  refine v_getF X (dk D_In_useFirstQuotes 1 rfl) F_In_14 rfl rfl (hS.lt (by decide)) (hS.2 7 0) ?_
  refine v_iconst (v := 0) X (dk D_In_useFirstQuotes 2 rfl) (by decide) ?_
  refine v_invV (As := [.int 0]) (st := []) X (k_cut0 l q hO) (dk D_In_useFirstQuotes 3 rfl) G_In_53 K_By_cut V_By_cut rfl rfl (hS.lt (by decide)) rfl rfl (Nat.le_of_ble_eq_true rfl) (Nat.le_of_ble_eq_true rfl) (Nat.le_of_ble_eq_true rfl) (Nat.le_of_ble_eq_true rfl) (Nat.le_of_ble_eq_true rfl) ?_
  rintro v w1 ⟨rfl, a1, b1⟩
  have S1 := hS.sm a1
  show Vv _ _ _ _ _ _ _ _ _ _ _ _ _ _ _ [] (0, 0, w1.2.2)
  refine v_aload_n X (dk D_In_useFirstQuotes 4 rfl) rfl ?_
  refine v_getF X (dk D_In_useFirstQuotes 5 rfl) F_In_14 rfl rfl (S1.lt (by decide)) (S1.2 7 0) ?_
  refine v_bipush (v := 96) X (dk D_In_useFirstQuotes 6 rfl) (by decide) ?_
  refine v_invV (As := [.int 96]) (st := []) X (k_add l q (x := 96) b1) (dk D_In_useFirstQuotes 7 rfl) G_In_56 K_By_add V_By_add rfl rfl (S1.lt (by decide)) rfl rfl (Nat.le_of_ble_eq_true rfl) (Nat.le_of_ble_eq_true rfl) (Nat.le_of_ble_eq_true rfl) (Nat.le_of_ble_eq_true rfl) (Nat.le_of_ble_eq_true rfl) ?_
  rintro v w2 ⟨rfl, a2, b2⟩
  have S2 := S1.sm a2
  show Vv _ _ _ _ _ _ _ _ _ _ _ _ _ _ _ [] (0, 0, w2.2.2)
  refine v_aload_n X (dk D_In_useFirstQuotes 8 rfl) rfl ?_
  refine v_getF X (dk D_In_useFirstQuotes 9 rfl) F_In_20 rfl rfl (S2.lt (by decide)) (S2.2 7 1) ?_
  refine v_iconst (v := 0) X (dk D_In_useFirstQuotes 10 rfl) (by decide) ?_
  refine v_invV (As := [.int 0]) (st := []) X (k_cut0 l q ((hC.sm a1 (by decide) (by decide)).sm a2 (by decide) (by decide))) (dk D_In_useFirstQuotes 11 rfl) G_In_53 K_By_cut V_By_cut rfl rfl (S2.lt (by decide)) rfl rfl (Nat.le_of_ble_eq_true rfl) (Nat.le_of_ble_eq_true rfl) (Nat.le_of_ble_eq_true rfl) (Nat.le_of_ble_eq_true rfl) (Nat.le_of_ble_eq_true rfl) ?_
  rintro v w3 ⟨rfl, a3, b3⟩
  have S3 := S2.sm a3
  show Vv _ _ _ _ _ _ _ _ _ _ _ _ _ _ _ [] (0, 0, w3.2.2)
  refine v_aload_n X (dk D_In_useFirstQuotes 12 rfl) rfl ?_
  refine v_getF X (dk D_In_useFirstQuotes 13 rfl) F_In_20 rfl rfl (S3.lt (by decide)) (S3.2 7 1) ?_
  refine v_bipush (v := 39) X (dk D_In_useFirstQuotes 14 rfl) (by decide) ?_
  refine v_invV (As := [.int 39]) (st := []) X (k_add l q (x := 39) b3) (dk D_In_useFirstQuotes 15 rfl) G_In_56 K_By_add V_By_add rfl rfl (S3.lt (by decide)) rfl rfl (Nat.le_of_ble_eq_true rfl) (Nat.le_of_ble_eq_true rfl) (Nat.le_of_ble_eq_true rfl) (Nat.le_of_ble_eq_true rfl) (Nat.le_of_ble_eq_true rfl) ?_
  rintro v w4 ⟨rfl, a4, b4⟩
  have S4 := S3.sm a4
  show Vv _ _ _ _ _ _ _ _ _ _ _ _ _ _ _ [] (0, 0, w4.2.2)
  exact v_vret X hlk hrt (dk D_In_useFirstQuotes 16 rfl) ⟨rfl, (((a1.mono (by decide)).tr a2 (fun _ z => z) (by decide)).tr a3 (fun _ z => z) (by decide)).tr a4 (fun _ z => z) (by decide), (RB.sm b2 a3 (by decide) (by decide)).sm a4 (by decide) (by decide), b4⟩
