/-! Input: readRemark, dropLine -/
theorem rdR_last {d : Nat} {J : Ip} (hne : ¬ J.1 = []) (h10 : atL J.1 (nI 0) = 10) : rdR (d + 1) J = (if tkV J < 0 then 31 else 0, tkI J, if tkV J < 0 then [] else [J.1.getD 0 0]) := by
  by_cases hc : tkV J < 0
  · rw [if_pos hc, if_pos hc, tk_bad (fun z => absurd z (Int32.not_le.mpr hc))]; exact (if_neg hne).trans (if_pos hc)
  · rw [if_neg hc, if_neg hc]; exact (if_neg hne).trans ((if_neg hc).trans (if_pos h10))
theorem len_0 {u : List Int32} (hl : u.length ≤ 32768) : nI u.length ≤ 0 ↔ u = [] := by
  cases u with
  | nil => exact ⟨fun _ => rfl, fun _ => by decide⟩
  | cons x u => exact ⟨fun h => absurd h (nI_nle (Nat.succ_pos _) (by omega)), fun h => absurd h (List.cons_ne_nil _ _)⟩
def drL : Nat → Ip → Int32 × Ip
  | 0, I => (0, I)
  | d + 1, I => if I.1 = [] then (0, I) else if tkV I < 0 then (31, I) else if tkV I = 10 then (0, tkI I) else drL d (tkI I)
set_option maxHeartbeats 4000000 in
set_option maxRecDepth 100000 in
theorem k_readRemark (l : Launch) (q : ev_T) {fu : Nat} {I : Ip} {xs : List Int32} {g : mu_T} (hS : Shp g) (hI : IQ g fu I) (hX : RB g 12 13 32768 xs false) (hxl : xs.length + I.1.length ≤ 32768) : Ctr l q M_In_readRemark 3 [.ref 7] (0, 0, g) (fun v w => v = some (.int (rdR 32768 I).1) ∧ sm g w.2.2 [7, 12, 13] ∧ IQ w.2.2 fu (rdR 32768 I).2.1 ∧ gI w.2.2 7 3 = 2 ∧ gI w.2.2 7 4 = gI g 7 4 ∧ RB w.2.2 12 13 32768 (xs ++ (rdR 32768 I).2.2) false) := by

  refine Ctr.mk (lb := [some (.ref 7), none, none, none]) (by decide +kernel) (Nat.le_of_ble_eq_true rfl) rfl rfl ?_
  intro pp ee ss mm aa bb mt cd X hrt hlk hnm
  have bad : ∀ (k : Int32) (u : mu_T) (J : Ip) (zs : List Int32), sm g u [7, 12, 13] → gI u 7 3 = 2 → gI u 7 4 = gI g 7 4 → IQ u fu J → RB u 12 13 32768 zs false → (rdR 32768 I).1 = 31 → (rdR 32768 I).2.1 = J → xs ++ (rdR 32768 I).2.2 = zs → Vv pp l ee (rmT 3 0 0) ss mm aa bb mt cd 4 q (MQ bb (Qw q (fun v w => v = some (.int (rdR 32768 I).1) ∧ sm g w.2.2 [7, 12, 13] ∧ IQ w.2.2 fu (rdR 32768 I).2.1 ∧ gI w.2.2 7 3 = 2 ∧ gI w.2.2 7 4 = gI g 7 4 ∧ RB w.2.2 12 13 32768 (xs ++ (rdR 32768 I).2.2) false)) aa ss 0 0 (fun a => q.1 ≤ a)) 9 [some (.ref 7), some (.int 31), some (.int k), none] [] (0, 0, u) := by
    intro k u J zs hs hk3 hk4 hIu hRB e1 e2 e3
    have hSu := hS.sm hs
    refine v_iload_n X (dk D_In_readRemark 7 rfl) rfl ?_
    refine v_ldc X (dk D_In_readRemark 8 rfl) C_In_23 ?_
    refine v_icmp_ge (tgt := 61) X (dk D_In_readRemark 9 rfl) (by decide) (fun c12 => ?_) (fun c12 => ?_)
    · refine v_iload_n X (dk D_In_readRemark 35 rfl) rfl ?_
      exact v_iret X hlk hrt (dk D_In_readRemark 36 rfl) (by rw [e1, e2, e3]; exact ⟨rfl, hs, hIu, hk3, hk4, hRB⟩)
    · refine v_iload_n X (dk D_In_readRemark 10 rfl) rfl ?_
      refine v_if_ne (tgt := 61) X (dk D_In_readRemark 11 rfl) (by decide) (fun _ => ?_) (fun c16 => absurd c16 (by decide))
      refine v_iload_n X (dk D_In_readRemark 35 rfl) rfl ?_
      exact v_iret X hlk hrt (dk D_In_readRemark 36 rfl) (by rw [e1, e2, e3]; exact ⟨rfl, hs, hIu, hk3, hk4, hRB⟩)
  have loop : ∀ (d k : Nat) (u : mu_T) (J : Ip) (zs : List Int32), k + d = 32768 → sm g u [7, 12, 13] → gI u 7 3 = 2 → gI u 7 4 = gI g 7 4 → IQ u fu J → RB u 12 13 32768 zs false → zs.length + J.1.length ≤ 32768 → (rdR 32768 I).1 = (rdR d J).1 → (rdR 32768 I).2.1 = (rdR d J).2.1 → xs ++ (rdR 32768 I).2.2 = zs ++ (rdR d J).2.2 → Vv pp l ee (rmT 3 0 0) ss mm aa bb mt cd 4 q (MQ bb (Qw q (fun v w => v = some (.int (rdR 32768 I).1) ∧ sm g w.2.2 [7, 12, 13] ∧ IQ w.2.2 fu (rdR 32768 I).2.1 ∧ gI w.2.2 7 3 = 2 ∧ gI w.2.2 7 4 = gI g 7 4 ∧ RB w.2.2 12 13 32768 (xs ++ (rdR 32768 I).2.2) false)) aa ss 0 0 (fun a => q.1 ≤ a)) 9 [some (.ref 7), some (.int 0), some (.int (nI k)), none] [] (0, 0, u) := by
    intro d
    induction d with
    | zero =>
      intro k u J zs hkd hs hk3 hk4 hIu hRB hzl e1 e2 e3
      have hSu := hS.sm hs
      refine v_iload_n X (dk D_In_readRemark 7 rfl) rfl ?_
      refine v_ldc X (dk D_In_readRemark 8 rfl) C_In_23 ?_
      refine v_icmp_ge (tgt := 61) X (dk D_In_readRemark 9 rfl) (by decide) (fun _ => ?_) (fun c12 => absurd (nI_le (a := 32768) (by omega) (by omega)) c12)
      refine v_iload_n X (dk D_In_readRemark 35 rfl) rfl ?_
      exact v_iret X hlk hrt (dk D_In_readRemark 36 rfl) (by rw [e1, e2, e3]; refine ⟨rfl, hs, hIu, hk3, hk4, ?_⟩; show RB _ _ _ _ (zs ++ []) _; rw [List.append_nil]; exact hRB)
    | succ d ih =>
      intro k u J zs hkd hs hk3 hk4 hIu hRB hzl e1 e2 e3
      have hSu := hS.sm hs
      refine v_iload_n X (dk D_In_readRemark 7 rfl) rfl ?_
      refine v_ldc X (dk D_In_readRemark 8 rfl) C_In_23 ?_
      refine v_icmp_ge (tgt := 61) X (dk D_In_readRemark 9 rfl) (by decide) (fun c12 => absurd c12 (nI_ge (b := 32768) (by omega) (by decide))) (fun _ => ?_)
      refine v_iload_n X (dk D_In_readRemark 10 rfl) rfl ?_
      refine v_if_ne (tgt := 61) X (dk D_In_readRemark 11 rfl) (by decide) (fun c16 => absurd (by decide) c16) (fun _ => ?_)
      refine v_aload_n X (dk D_In_readRemark 12 rfl) rfl ?_
      refine v_invV (As := []) (st := []) X (k_left l q hSu hIu) (dk D_In_readRemark 13 rfl) G_In_66 K_In_left V_In_left rfl rfl (hSu.lt (by decide)) rfl rfl (Nat.le_of_ble_eq_true rfl) (Nat.le_of_ble_eq_true rfl) (Nat.le_of_ble_eq_true rfl) (Nat.le_of_ble_eq_true rfl) (Nat.le_of_ble_eq_true rfl) ?_
      rintro v w ⟨rfl, hw⟩
      rw [hw]
      show Vv _ _ _ _ _ _ _ _ _ _ _ _ _ _ _ [.int (nI J.1.length)] (0, 0, u)
      refine v_if_le (tgt := 61) X (dk D_In_readRemark 14 rfl) (by decide) (fun c23 => ?_) (fun c23 => ?_)
      · refine v_iload_n X (dk D_In_readRemark 35 rfl) rfl ?_
        exact v_iret X hlk hrt (dk D_In_readRemark 36 rfl) (by rw [e1, e2, e3, show rdR (d + 1) J = (0, J, []) from if_pos ((len_0 hIu.len).mp c23)]; refine ⟨rfl, hs, hIu, hk3, hk4, ?_⟩; show RB _ _ _ _ (zs ++ []) _; rw [List.append_nil]; exact hRB)
      · refine v_aload_n X (dk D_In_readRemark 15 rfl) rfl ?_
        refine v_iconst (v := nI 0) X (dk D_In_readRemark 16 rfl) (by decide) ?_
        refine v_invV (As := [.int (nI 0)]) (st := []) X (k_peek l q (k := 0) hSu hIu (by decide)) (dk D_In_readRemark 17 rfl) G_In_92 K_In_peek V_In_peek rfl rfl (hSu.lt (by decide)) rfl rfl (Nat.le_of_ble_eq_true rfl) (Nat.le_of_ble_eq_true rfl) (Nat.le_of_ble_eq_true rfl) (Nat.le_of_ble_eq_true rfl) (Nat.le_of_ble_eq_true rfl) ?_
        rintro v w ⟨rfl, hw⟩
        rw [hw]
        show Vv _ _ _ _ _ _ _ _ _ _ _ _ _ _ _ [.int (atL J.1 (nI 0))] (0, 0, u)
        refine v_bipush (v := 10) X (dk D_In_readRemark 18 rfl) (by decide) ?_
        refine v_icmp_ne (tgt := 40) X (dk D_In_readRemark 19 rfl) (by decide) (fun c33 => ?_) (fun c33 => ?_)
        · refine v_iconst (v := 0) X (dk D_In_readRemark 22 rfl) (by decide) ?_
          refine v_istore_n (lb := [some (.ref 7), some (.int 0), some (.int (nI k)), some (.int 0)]) X (dk D_In_readRemark 23 rfl) (by decide) rfl ?_
          refine v_aload_n X (dk D_In_readRemark 24 rfl) rfl ?_
          refine v_iconst (v := 1) X (dk D_In_readRemark 25 rfl) (by decide) ?_
          refine v_iconst (v := 1) X (dk D_In_readRemark 26 rfl) (by decide) ?_
          refine v_invV (As := [.int 1, .int 1]) (st := []) X (k_take1 l q hSu hIu hRB hzl) (dk D_In_readRemark 27 rfl) G_In_115 K_In_takeSome V_In_takeSome rfl rfl (hSu.lt (by decide)) rfl rfl (Nat.le_of_ble_eq_true rfl) (Nat.le_of_ble_eq_true rfl) (Nat.le_of_ble_eq_true rfl) (Nat.le_of_ble_eq_true rfl) (Nat.le_of_ble_eq_true rfl) ?_
          rintro v w ⟨rfl, hw1, hw2, hw3, hw4⟩
          show Vv _ _ _ _ _ _ _ _ _ _ _ _ _ _ _ [.int (if tkV J < 0 then 31 else 0)] (0, 0, w.2.2)
          refine v_istore_n (lb := [some (.ref 7), some (.int (if tkV J < 0 then 31 else 0)), some (.int (nI k)), some (.int 0)]) X (dk D_In_readRemark 28 rfl) (by decide) rfl ?_
          refine v_iload_n X (dk D_In_readRemark 29 rfl) rfl ?_
          refine v_if_eq (tgt := 55) X (dk D_In_readRemark 30 rfl) (by decide) (fun c50 => ?_) (fun c50 => ?_)
          · refine v_iinc (v := nI (k + 1)) (lb := [some (.ref 7), some (.int (if tkV J < 0 then 31 else 0)), some (.int (nI (k + 1))), some (.int 0)]) X (dk D_In_readRemark 33 rfl) rfl (nI_1 k) (by decide) rfl ?_
            refine v_goto (tgt := 9) X (dk D_In_readRemark 34 rfl) (by decide) ?_
            have hne : ¬ J.1 = [] := fun z => c23 ((len_0 hIu.len).mpr z)
            have hs2 := hs.tr hw1 (U := [7, 12, 13]) (fun _ z => z) (fun _ z => z)
            by_cases hc : tkV J < 0
            · have e : rdR (d + 1) J = (31, J, []) := (if_neg hne).trans (if_pos hc)
              rw [e] at e1 e2 e3
              rw [if_pos hc, List.append_nil] at hw4
              rw [tk_bad (fun z => absurd z (Int32.not_le.mpr hc))] at hw2
              rw [show (if tkV J < 0 then (31 : Int32) else 0) = 31 from if_pos hc]
              exact v_weak (la := [some (.ref 7), some (.int 31), some (.int (nI (k + 1))), none]) ⟨rfl, rfl, rfl, trivial⟩ (bad _ _ _ _ hs2 (hw3.1.trans hk3) (hw3.2.trans hk4) hw2 hw4 e1 e2 (by rw [e3, List.append_nil]))
            · have e : rdR (d + 1) J = ((rdR d (tkI J)).1, (rdR d (tkI J)).2.1, J.1.getD 0 0 :: (rdR d (tkI J)).2.2) := (if_neg hne).trans ((if_neg hc).trans (if_neg c33))
              rw [e] at e1 e2 e3
              have hl := tk_len hc
              rw [if_neg hc] at hw4
              rw [show (if tkV J < 0 then (31 : Int32) else 0) = 0 from if_neg hc]
              exact v_weak (la := [some (.ref 7), some (.int 0), some (.int (nI (k + 1))), none]) ⟨rfl, rfl, rfl, trivial⟩ (ih (k + 1) _ _ _ (by omega) hs2 (hw3.1.trans hk3) (hw3.2.trans hk4) hw2 hw4 (by rw [List.length_append]; show zs.length + 1 + _ ≤ _; omega) e1 e2 (by rw [e3, List.append_assoc]; rfl))
          · refine v_iload_n X (dk D_In_readRemark 31 rfl) rfl ?_
            exact v_iret X hlk hrt (dk D_In_readRemark 32 rfl) (absurd rfl c50)
        · refine v_iconst (v := 1) X (dk D_In_readRemark 20 rfl) (by decide) ?_
          refine v_goto (tgt := 41) X (dk D_In_readRemark 21 rfl) (by decide) ?_
          refine v_istore_n (lb := [some (.ref 7), some (.int 0), some (.int (nI k)), some (.int 1)]) X (dk D_In_readRemark 23 rfl) (by decide) rfl ?_
          refine v_aload_n X (dk D_In_readRemark 24 rfl) rfl ?_
          refine v_iconst (v := 1) X (dk D_In_readRemark 25 rfl) (by decide) ?_
          refine v_iconst (v := 1) X (dk D_In_readRemark 26 rfl) (by decide) ?_
          refine v_invV (As := [.int 1, .int 1]) (st := []) X (k_take1 l q hSu hIu hRB hzl) (dk D_In_readRemark 27 rfl) G_In_115 K_In_takeSome V_In_takeSome rfl rfl (hSu.lt (by decide)) rfl rfl (Nat.le_of_ble_eq_true rfl) (Nat.le_of_ble_eq_true rfl) (Nat.le_of_ble_eq_true rfl) (Nat.le_of_ble_eq_true rfl) (Nat.le_of_ble_eq_true rfl) ?_
          rintro v w ⟨rfl, hw1, hw2, hw3, hw4⟩
          show Vv _ _ _ _ _ _ _ _ _ _ _ _ _ _ _ [.int (if tkV J < 0 then 31 else 0)] (0, 0, w.2.2)
          refine v_istore_n (lb := [some (.ref 7), some (.int (if tkV J < 0 then 31 else 0)), some (.int (nI k)), some (.int 1)]) X (dk D_In_readRemark 28 rfl) (by decide) rfl ?_
          refine v_iload_n X (dk D_In_readRemark 29 rfl) rfl ?_
          refine v_if_eq (tgt := 55) X (dk D_In_readRemark 30 rfl) (by decide) (fun c50 => ?_) (fun c50 => ?_)
          · refine v_iinc (v := nI (k + 1)) (lb := [some (.ref 7), some (.int (if tkV J < 0 then 31 else 0)), some (.int (nI (k + 1))), some (.int 1)]) X (dk D_In_readRemark 33 rfl) rfl (nI_1 k) (by decide) rfl ?_
            refine v_goto (tgt := 9) X (dk D_In_readRemark 34 rfl) (by decide) ?_
            exact absurd c50 (by decide)
          · refine v_iload_n X (dk D_In_readRemark 31 rfl) rfl ?_
            exact v_iret X hlk hrt (dk D_In_readRemark 32 rfl) (by rw [e1, e2, e3, rdR_last (fun z => c23 ((len_0 hIu.len).mpr z)) c33]; exact ⟨rfl, hs.tr hw1 (fun _ z => z) (fun _ z => z), hw2, hw3.1.trans hk3, hw3.2.trans hk4, hw4⟩)
  refine v_aload_n X (dk D_In_readRemark 0 rfl) rfl ?_
  refine v_iconst (v := 2) X (dk D_In_readRemark 1 rfl) (by decide) ?_
  refine v_putI X (dk D_In_readRemark 2 rfl) F_In_95 CK_In rfl rfl (hS.lt (by decide)) rfl rfl ?_
  refine v_iconst (v := 0) X (dk D_In_readRemark 3 rfl) (by decide) ?_
  refine v_istore_n (lb := [some (.ref 7), some (.int 0), none, none]) X (dk D_In_readRemark 4 rfl) (by decide) rfl ?_
  refine v_iconst (v := nI 0) X (dk D_In_readRemark 5 rfl) (by decide) ?_
  refine v_istore_n (lb := [some (.ref 7), some (.int 0), some (.int (nI 0)), none]) X (dk D_In_readRemark 6 rfl) (by decide) rfl ?_
  exact loop 32768 0 _ I xs (by decide) ((sm.rf g _).xI (by decide)) (gI_eq _ _ _ _) (gI_nk (by decide)) (hI.kt 3 _ (by decide)) (hX.sm ((sm.rf g [7]).xI (by simp)) (by decide) (by decide)) hxl rfl rfl rfl
set_option maxHeartbeats 4000000 in
set_option maxRecDepth 100000 in
theorem k_dropLine (l : Launch) (q : ev_T) {fu : Nat} {I : Ip} {g : mu_T} (hS : Shp g) (hI : IQ g fu I) : Ctr l q M_In_dropLine 2 [.ref 7] (0, 0, g) (fun v w => v = some (.int (drL 32768 I).1) ∧ sm g w.2.2 [7] ∧ IQ w.2.2 fu (drL 32768 I).2 ∧ kp g w.2.2) := by

  refine Ctr.mk (lb := [some (.ref 7), none, none]) (by decide +kernel) (Nat.le_of_ble_eq_true rfl) rfl rfl ?_
  intro pp ee ss mm aa bb mt cd X hrt hlk hnm
  have loop : ∀ (d k : Nat) (u : mu_T) (J : Ip), k + d = 32768 → sm g u [7] → kp g u → IQ u fu J → drL 32768 I = drL d J → Vv pp l ee (rmT 2 0 0) ss mm aa bb mt cd 3 q (MQ bb (Qw q (fun v w => v = some (.int (drL 32768 I).1) ∧ sm g w.2.2 [7] ∧ IQ w.2.2 fu (drL 32768 I).2 ∧ kp g w.2.2)) aa ss 0 0 (fun a => q.1 ≤ a)) 2 [some (.ref 7), some (.int (nI k)), none] [] (0, 0, u) := by
    intro d
    induction d with
    | zero =>
      intro k u J hkd hs hkp hIu e1
      have hSu := hS.sm hs
      refine v_iload_n X (dk D_In_dropLine 2 rfl) rfl ?_
      refine v_ldc X (dk D_In_dropLine 3 rfl) C_In_23 ?_
      refine v_icmp_ge (tgt := 41) X (dk D_In_dropLine 4 rfl) (by decide) (fun _ => ?_) (fun c5 => absurd (nI_le (a := 32768) (by omega) (by omega)) c5)
      refine v_iconst (v := 0) X (dk D_In_dropLine 22 rfl) (by decide) ?_
      exact v_iret X hlk hrt (dk D_In_dropLine 23 rfl) (by rw [e1]; exact ⟨rfl, hs, hIu, hkp⟩)
    | succ d ih =>
      intro k u J hkd hs hkp hIu e1
      have hSu := hS.sm hs
      refine v_iload_n X (dk D_In_dropLine 2 rfl) rfl ?_
      refine v_ldc X (dk D_In_dropLine 3 rfl) C_In_23 ?_
      refine v_icmp_ge (tgt := 41) X (dk D_In_dropLine 4 rfl) (by decide) (fun c5 => absurd c5 (nI_ge (b := 32768) (by omega) (by decide))) (fun _ => ?_)
      refine v_aload_n X (dk D_In_dropLine 5 rfl) rfl ?_
      refine v_invV (As := []) (st := []) X (k_left l q hSu hIu) (dk D_In_dropLine 6 rfl) G_In_66 K_In_left V_In_left rfl rfl (hSu.lt (by decide)) rfl rfl (Nat.le_of_ble_eq_true rfl) (Nat.le_of_ble_eq_true rfl) (Nat.le_of_ble_eq_true rfl) (Nat.le_of_ble_eq_true rfl) (Nat.le_of_ble_eq_true rfl) ?_
      rintro v w ⟨rfl, hw⟩
      rw [hw]
      show Vv _ _ _ _ _ _ _ _ _ _ _ _ _ _ _ [.int (nI J.1.length)] (0, 0, u)
      refine v_if_le (tgt := 41) X (dk D_In_dropLine 7 rfl) (by decide) (fun c12 => ?_) (fun c12 => ?_)
      · refine v_iconst (v := 0) X (dk D_In_dropLine 22 rfl) (by decide) ?_
        exact v_iret X hlk hrt (dk D_In_dropLine 23 rfl) (by rw [e1, show drL (d + 1) J = (0, J) from if_pos ((len_0 hIu.len).mp c12)]; exact ⟨rfl, hs, hIu, hkp⟩)
      · refine v_aload_n X (dk D_In_dropLine 8 rfl) rfl ?_
        refine v_invV (As := []) (st := []) X (k_In_take l q hSu hIu) (dk D_In_dropLine 9 rfl) G_In_83 K_In_take V_In_take rfl rfl (hSu.lt (by decide)) rfl rfl (Nat.le_of_ble_eq_true rfl) (Nat.le_of_ble_eq_true rfl) (Nat.le_of_ble_eq_true rfl) (Nat.le_of_ble_eq_true rfl) (Nat.le_of_ble_eq_true rfl) ?_
        rintro v w ⟨rfl, hw1, hw2, hw3⟩
        show Vv _ _ _ _ _ _ _ _ _ _ _ _ _ _ _ [.int (tkV J)] (0, 0, w.2.2)
        refine v_istore_n (lb := [some (.ref 7), some (.int (nI k)), some (.int (tkV J))]) X (dk D_In_dropLine 10 rfl) (by decide) rfl ?_
        refine v_iload_n X (dk D_In_dropLine 11 rfl) rfl ?_
        refine v_if_ge (tgt := 27) X (dk D_In_dropLine 12 rfl) (by decide) (fun c21 => ?_) (fun c21 => ?_)
        · refine v_iload_n X (dk D_In_dropLine 15 rfl) rfl ?_
          refine v_bipush (v := 10) X (dk D_In_dropLine 16 rfl) (by decide) ?_
          refine v_icmp_ne (tgt := 35) X (dk D_In_dropLine 17 rfl) (by decide) (fun c30 => ?_) (fun c30 => ?_)
          · refine v_iinc (v := nI (k + 1)) (lb := [some (.ref 7), some (.int (nI (k + 1))), some (.int (tkV J))]) X (dk D_In_dropLine 20 rfl) rfl (nI_1 k) (by decide) rfl ?_
            refine v_goto (tgt := 2) X (dk D_In_dropLine 21 rfl) (by decide) ?_
            exact v_weak (la := [some (.ref 7), some (.int (nI (k + 1))), none]) ⟨rfl, rfl, trivial⟩ (ih (k + 1) _ _ (by omega) (hs.tr hw1 (fun _ z => z) (fun _ z => z)) (hkp.tr hw3) hw2 (e1.trans ((if_neg (fun z => c12 ((len_0 hIu.len).mpr z))).trans ((if_neg (fun z => absurd c21 (Int32.not_le.mpr z))).trans (if_neg c30)))))
          · refine v_iconst (v := 0) X (dk D_In_dropLine 18 rfl) (by decide) ?_
            exact v_iret X hlk hrt (dk D_In_dropLine 19 rfl) (by rw [e1, show drL (d + 1) J = (0, tkI J) from (if_neg (fun z => c12 ((len_0 hIu.len).mpr z))).trans ((if_neg (fun z => absurd c21 (Int32.not_le.mpr z))).trans (if_pos c30))]; exact ⟨rfl, hs.tr hw1 (fun _ z => z) (fun _ z => z), hw2, hkp.tr hw3⟩)
        · refine v_bipush (v := 31) X (dk D_In_dropLine 13 rfl) (by decide) ?_
          exact v_iret X hlk hrt (dk D_In_dropLine 14 rfl) (by rw [e1, show drL (d + 1) J = (31, J) from (if_neg (fun z => c12 ((len_0 hIu.len).mpr z))).trans (if_pos (Int32.not_le.mp c21))]; rw [tk_bad c21] at hw2; exact ⟨rfl, hs.tr hw1 (fun _ z => z) (fun _ z => z), hw2, hkp.tr hw3⟩)
  refine v_iconst (v := nI 0) X (dk D_In_dropLine 0 rfl) (by decide) ?_
  refine v_istore_n (lb := [some (.ref 7), some (.int (nI 0)), none]) X (dk D_In_dropLine 1 rfl) (by decide) rfl ?_
  exact loop 32768 0 _ I (by decide) (sm.rf g _) (kp.rf g) hI rfl
