/-! the reference: what is given goes to the input -/
theorem drop_getD {xs : List Int32} {j : Nat} (h : j < xs.length) : xs.drop j = xs.getD j 0 :: xs.drop (j + 1) := by
  rw [List.drop_eq_getElem_cons h, List.getD_eq_getElem?_getD, List.getElem?_eq_getElem h]; rfl
theorem dec1 (x : Int32) : x + Int32.ofInt (-1) = x - 1 := by rw [Int32.sub_eq_add_neg]; rfl
theorem rw_byte {g : mu_T} {r p N : Nat} {xs : List Int32} (hB : mmB (0, 0, g)) (hr : kdT r = .inr (1, N)) (h : rwA g r p xs) : ∀ x ∈ xs, isByte x := by
  intro x hx
  obtain ⟨j, hj, e⟩ := List.getElem_of_mem hx
  have h1 : gI g r (p + j) = x := by rw [h j hj, List.getD_eq_getElem?_getD, List.getElem?_eq_getElem hj, ← e]; rfl
  rw [← h1]
  exact hB r N hr (p + j)
theorem RQ_push {g : mu_T} {fu : Nat} {x : Int32} {xs : List Int32} {t : Nat × Nat × Nat} (h : RQ g fu (xs, t)) (hl : xs.length < 32768) : RQ (xI (xI g 1003 8 (nI (32768 - (xs.length + 1)))) 1006 (32768 - (xs.length + 1)) x) fu (x :: xs, t) := by
  obtain ⟨h1, h2, h3, h4, h5, h6, h7, h8, h9, h10⟩ := h
  refine ⟨(gI_na (by decide)).trans (gI_eq _ _ _ _), hl, fun j hj => ?_, ((gI_na (by decide)).trans (gI_nk (by decide))).trans h4, Nat.le_succ_of_le h5, ((gI_na (by decide)).trans (gI_nk (by decide))).trans h6, ((gI_na (by decide)).trans (gI_nk (by decide))).trans h7, ((gI_na (by decide)).trans (gI_nk (by decide))).trans h8, h9, h10⟩
  cases j with
  | zero => exact gI_eq _ _ _ _
  | succ j =>
    have hj : j < xs.length := Nat.lt_of_succ_lt_succ hj
    show gI _ 1006 (32768 - (xs.length + 1) + (j + 1)) = _
    rw [gI_nk (by omega), gI_na (by decide), show 32768 - (xs.length + 1) + (j + 1) = 32768 - xs.length + j by omega]
    exact h3 j hj
set_option maxHeartbeats 4000000 in
set_option maxRecDepth 100000 in
theorem r_putBack (l : Launch) (q : ev_T) {fu : Nat} {I : Ip} {F : List Int32} {g : mu_T} (hS : Shp g) (hI : RQ g fu I) (he : gI g 1003 2 = 0) (hV : GV g F) (hF : F.length + I.1.length ≤ 32768) : Ctr l q M_Rf_putBack 0 [.ref 1003] (0, 0, g) (fun v w => v = none ∧ rs g w.2.2 [8, 20] [1006] ∧ RQ w.2.2 fu (F ++ I.1, I.2) ∧ GV w.2.2 []) := by

  refine Ctr.mk (lb := [some (.ref 1003), none]) (by decide +kernel) (Nat.le_of_ble_eq_true rfl) rfl rfl ?_
  intro pp ee ss mm aa bb mt cd X hrt hlk hnm
  refine v_inv (fun hBB _ => ?_)
  have hfb : ∀ x ∈ F, x.toInt8.toInt32 = x := rw_byte hBB (r := 1010) (N := 32769) rfl hV.2.1
  have loop : ∀ (j : Nat), j ≤ F.length → ∀ (u : mu_T), rs g u [8, 20] [1006] → RQ u fu (F.drop j ++ I.1, I.2) → Vv pp l ee (rmT 0 0 0) ss mm aa bb mt cd 2 q (MQ bb (Qw q (fun v w => v = none ∧ rs g w.2.2 [8, 20] [1006] ∧ RQ w.2.2 fu (F ++ I.1, I.2) ∧ GV w.2.2 [])) aa ss 0 0 (fun a => q.1 ≤ a)) 7 [some (.ref 1003), some (.int (nI j - 1))] [] (0, 0, u) := by
    intro j
    induction j with
    | zero =>
      intro hj u hs hQ
      have hSu := hs.S hS
      refine v_iload_n X (dk D_Rf_putBack 5 rfl) rfl ?_
      refine v_if_lt (tgt := 49) X (dk D_Rf_putBack 6 rfl) (by decide) (fun _ => ?_) (fun c8 => absurd (show nI 0 - 1 < 0 by decide) c8)
      refine v_aload_n X (dk D_Rf_putBack 27 rfl) rfl ?_
      refine v_iconst (v := 0) X (dk D_Rf_putBack 28 rfl) (by decide) ?_
      refine v_putI X (dk D_Rf_putBack 29 rfl) F_Rf_139 CK_Rf rfl rfl (hSu.lt (by decide)) rfl rfl ?_
      exact v_vret X hlk hrt (dk D_Rf_putBack 30 rfl) ⟨rfl, hs.fI (by decide), (show RQ u fu (F ++ I.1, I.2) from hQ).rs (show rs u _ [20] [] from (rs.rf u _ _).fI (by decide)) (by decide) (by decide), (gI_eq _ _ _ _), fun j hj => absurd hj (Nat.not_lt_zero j), by decide⟩
    | succ j ih =>
      intro hj u hs hQ
      have hSu := hs.S hS
      have hjF : j < F.length := by omega
      have hlen : (F.drop (j + 1) ++ I.1).length = F.length - (j + 1) + I.1.length := by rw [List.length_append, List.length_drop]
      rw [nI_pred]
      refine v_iload_n X (dk D_Rf_putBack 5 rfl) rfl ?_
      refine v_if_lt (tgt := 49) X (dk D_Rf_putBack 6 rfl) (by decide) (fun c8 => absurd c8 (nI_pos (by omega))) (fun _ => ?_)
      refine v_aload_n X (dk D_Rf_putBack 7 rfl) rfl ?_
      refine v_getI X (dk D_Rf_putBack 8 rfl) F_Rf_72 rfl rfl (hSu.lt (by decide)) ?_
      refine v_if_ne (tgt := 49) X (dk D_Rf_putBack 9 rfl) (by decide) (fun c15 => absurd (by rw [hs.2 2 (by decide)]; exact he) c15) (fun _ => ?_)
      refine v_aload_n X (dk D_Rf_putBack 10 rfl) rfl ?_
      refine v_dup X (dk D_Rf_putBack 11 rfl) rfl ?_
      refine v_getI X (dk D_Rf_putBack 12 rfl) F_Rf_78 rfl rfl (hSu.lt (by decide)) ?_
      rw [hQ.1]
      refine v_iconst (v := 1) X (dk D_Rf_putBack 13 rfl) (by decide) ?_
      refine v_isub X (dk D_Rf_putBack 14 rfl) ?_
      rw [show nI (32768 - (F.drop (j + 1) ++ I.1).length) - 1 = nI (32768 - ((F.drop (j + 1) ++ I.1).length + 1)) from by rw [show 32768 - (F.drop (j + 1) ++ I.1).length = 32768 - ((F.drop (j + 1) ++ I.1).length + 1) + 1 by omega, nI_pred]]
      refine v_putI X (dk D_Rf_putBack 15 rfl) F_Rf_78 CK_Rf rfl rfl (hSu.lt (by decide)) rfl rfl ?_
      refine v_aload_n X (dk D_Rf_putBack 16 rfl) rfl ?_
      refine v_getF X (dk D_Rf_putBack 17 rfl) F_Rf_17 rfl rfl (hSu.lt (by decide)) (hSu.2 1003 7) ?_
      refine v_aload_n X (dk D_Rf_putBack 18 rfl) rfl ?_
      refine v_getI X (dk D_Rf_putBack 19 rfl) F_Rf_78 rfl rfl (hSu.lt (by decide)) ?_
      refine v_aload_n X (dk D_Rf_putBack 20 rfl) rfl ?_
      refine v_getF X (dk D_Rf_putBack 21 rfl) F_Rf_31 rfl rfl (hSu.lt (by decide)) (hSu.2 1003 19) ?_
      refine v_iload_n X (dk D_Rf_putBack 22 rfl) rfl ?_
      refine v_bald X (dk D_Rf_putBack 23 rfl) rfl (hSu.lt (by decide)) (vp_in_nI (show j < 32769 by omega) (by decide)) ?_
      rw [nI_clamp (by omega), show gI (xI u 1003 8 (nI (32768 - ((F.drop (j + 1) ++ I.1).length + 1)))) 1010 j = F.getD j 0 from by rw [gI_na (by decide), hs.row (by decide) (by decide)]; have := hV.2.1 j hjF; rw [Nat.zero_add] at this; exact this]
      refine v_bast X (dk D_Rf_putBack 24 rfl) rfl (hSu.lt (by decide)) (by rw [gI_eq]; exact vp_in_nI (show 32768 - ((F.drop (j + 1) ++ I.1).length + 1) < 32768 by omega) (by decide)) rfl ?_
      rw [gI_eq, nI_clamp (by omega), show (F.getD j 0).toInt8.toInt32 = F.getD j 0 from hfb _ (getD_mem hjF)]
      refine v_iinc (v := nI j - 1) (lb := [some (.ref 1003), some (.int (nI j - 1))]) X (dk D_Rf_putBack 25 rfl) rfl (dec1 _) (by decide) rfl ?_
      refine v_goto (tgt := 7) X (dk D_Rf_putBack 26 rfl) (by decide) ?_
      exact ih (by omega) _ ((hs.fI (by decide)).rI (by decide) (by decide)) (by rw [show F.drop j = F.getD j 0 :: F.drop (j + 1) from drop_getD hjF]; exact RQ_push (xs := F.drop (j + 1) ++ I.1) hQ (by rw [hlen]; omega))
  refine v_aload_n X (dk D_Rf_putBack 0 rfl) rfl ?_
  refine v_getI X (dk D_Rf_putBack 1 rfl) F_Rf_139 rfl rfl (hS.lt (by decide)) ?_
  rw [hV.1]
  refine v_iconst (v := 1) X (dk D_Rf_putBack 2 rfl) (by decide) ?_
  refine v_isub X (dk D_Rf_putBack 3 rfl) ?_
  refine v_istore_n (lb := [some (.ref 1003), some (.int _)]) X (dk D_Rf_putBack 4 rfl) (by decide) rfl ?_
  exact loop F.length (Nat.le_refl _) g (rs.rf g _ _) (by rw [List.drop_eq_nil_of_le (Nat.le_refl _)]; exact hI)
set_option maxHeartbeats 4000000 in
set_option maxRecDepth 100000 in
theorem r_putBackE (l : Launch) (q : ev_T) {g : mu_T} (hS : Shp g) (he : ¬ gI g 1003 2 = 0) : Ctr l q M_Rf_putBack 0 [.ref 1003] (0, 0, g) (fun v w => v = none ∧ rs g w.2.2 [20] [] ∧ GV w.2.2 []) := by

  refine Ctr.mk (lb := [some (.ref 1003), none]) (by decide +kernel) (Nat.le_of_ble_eq_true rfl) rfl rfl ?_
  intro pp ee ss mm aa bb mt cd X hrt hlk hnm
  refine v_aload_n X (dk D_Rf_putBack 0 rfl) rfl ?_
  refine v_getI X (dk D_Rf_putBack 1 rfl) F_Rf_139 rfl rfl (hS.lt (by decide)) ?_
  refine v_iconst (v := 1) X (dk D_Rf_putBack 2 rfl) (by decide) ?_
  refine v_isub X (dk D_Rf_putBack 3 rfl) ?_
  refine v_istore_n (lb := [some (.ref 1003), some (.int _)]) X (dk D_Rf_putBack 4 rfl) (by decide) rfl ?_
  refine v_iload_n X (dk D_Rf_putBack 5 rfl) rfl ?_
  refine v_if_lt (tgt := 49) X (dk D_Rf_putBack 6 rfl) (by decide) (fun c8 => ?_) (fun c8 => ?_)
  · refine v_aload_n X (dk D_Rf_putBack 27 rfl) rfl ?_
    refine v_iconst (v := 0) X (dk D_Rf_putBack 28 rfl) (by decide) ?_
    refine v_putI X (dk D_Rf_putBack 29 rfl) F_Rf_139 CK_Rf rfl rfl (hS.lt (by decide)) rfl rfl ?_
    exact v_vret X hlk hrt (dk D_Rf_putBack 30 rfl) ⟨rfl, (rs.rf g _ _).fI (by decide), (gI_eq _ _ _ _), fun j hj => absurd hj (Nat.not_lt_zero j), by decide⟩
  · refine v_aload_n X (dk D_Rf_putBack 7 rfl) rfl ?_
    refine v_getI X (dk D_Rf_putBack 8 rfl) F_Rf_72 rfl rfl (hS.lt (by decide)) ?_
    refine v_if_ne (tgt := 49) X (dk D_Rf_putBack 9 rfl) (by decide) (fun _ => ?_) (fun c15 => absurd c15 he)
    refine v_aload_n X (dk D_Rf_putBack 27 rfl) rfl ?_
    refine v_iconst (v := 0) X (dk D_Rf_putBack 28 rfl) (by decide) ?_
    refine v_putI X (dk D_Rf_putBack 29 rfl) F_Rf_139 CK_Rf rfl rfl (hS.lt (by decide)) rfl rfl ?_
    exact v_vret X hlk hrt (dk D_Rf_putBack 30 rfl) ⟨rfl, (rs.rf g _ _).fI (by decide), (gI_eq _ _ _ _), fun j hj => absurd hj (Nat.not_lt_zero j), by decide⟩
