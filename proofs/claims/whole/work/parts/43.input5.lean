/-! Input: begin, putBack -/
theorem n_In_begin {g : mu_T} {T : List Int32} {ov : Bool} {fu : Nat} (hT : RB g 1 2 32768 T ov) (hb : ∀ x ∈ T, isByte x) (hfu : fu < 2147483647) : sm g (xI (xI (xI (xI (xI (xR g 7 6 (some 1)) 7 10 (nI fu)) 7 5 0) 7 11 0) 7 7 0) 7 9 (nI 32768)) [7] ∧ IQ (xI (xI (xI (xI (xI (xR g 7 6 (some 1)) 7 10 (nI fu)) 7 5 0) 7 11 0) 7 7 0) 7 9 (nI 32768)) fu (T, T.length, fu, 0) := by
  have z : sm g (xI (xI (xI (xI (xI (xR g 7 6 (some 1)) 7 10 (nI fu)) 7 5 0) 7 11 0) 7 7 0) 7 9 (nI 32768)) [7] := ((((((sm.rf g [7]).xR (by simp)).xI (by simp)).xI (by simp)).xI (by simp)).xI (by simp)).xI (by simp)
  refine ⟨z, T, [], 0, ⟨ov, hT.sm z (by decide) (by decide)⟩, ?_, Nat.zero_le _, ?_, by rw [List.drop_zero]; rfl, rfl, gI_eq _ _ _ _, fun j hj => absurd hj (Nat.not_lt_zero _), ?_, hfu, Nat.le_refl _, ?_, ?_, Nat.le_refl _, hT.2.1, hb⟩
  · show gR (xR g 7 6 (some 1)) 7 6 = some 1
    exact gR_eq _ _ _ _
  · rw [gI_nk (by decide), gI_eq]; rfl
  · rw [gI_nk (by decide), gI_nk (by decide), gI_nk (by decide), gI_nk (by decide), gI_eq]
  · rw [gI_nk (by decide), gI_nk (by decide), gI_nk (by decide), gI_eq, Nat.sub_self]; rfl
  · rw [gI_nk (by decide), gI_nk (by decide), gI_eq]; rfl
set_option maxHeartbeats 4000000 in
set_option maxRecDepth 100000 in
theorem k_In_begin (l : Launch) (q : ev_T) {T op cl : List Int32} {ov oo oc : Bool} {fu : Nat} {g : mu_T} (hS : Shp g) (hT : RB g 1 2 32768 T ov) (hb : ∀ x ∈ T, isByte x) (hfu : fu < 2147483647) (hO : RB g 8 9 4 op oo) (hC : RB g 10 11 4 cl oc) : Ctr l q M_In_begin 2 [.ref 7, .ref 1, .int (nI fu)] (0, 0, g) (fun v w => v = none ∧ sm g w.2.2 [7, 8, 9, 10, 11] ∧ IQ w.2.2 fu (T, T.length, fu, 0) ∧ RB w.2.2 8 9 4 [96] false ∧ RB w.2.2 10 11 4 [39] false) := by

  refine Ctr.mk (lb := [some (.ref 7), some (.ref 1), some (.int (nI fu))]) (by decide +kernel) (Nat.le_of_ble_eq_true rfl) rfl rfl ?_
  intro pp ee ss mm aa bb mt cd X hrt hlk hnm
  refine v_aload_n X (dk D_In_begin 0 rfl) rfl ?_
  refine v_aload_n X (dk D_In_begin 1 rfl) rfl ?_
  refine v_putR (r := some 1) X (dk D_In_begin 2 rfl) F_In_27 CK_In rfl rfl (hS.lt (by decide)) ⟨_, rfl⟩ ?_
  refine v_aload_n X (dk D_In_begin 3 rfl) rfl ?_
  refine v_iload_n X (dk D_In_begin 4 rfl) rfl ?_
  refine v_putI X (dk D_In_begin 5 rfl) F_In_38 CK_In rfl rfl (hS.lt (by decide)) rfl rfl ?_
  refine v_aload_n X (dk D_In_begin 6 rfl) rfl ?_
  refine v_iconst (v := 0) X (dk D_In_begin 7 rfl) (by decide) ?_
  refine v_putI X (dk D_In_begin 8 rfl) F_In_41 CK_In rfl rfl (hS.lt (by decide)) rfl rfl ?_
  refine v_aload_n X (dk D_In_begin 9 rfl) rfl ?_
  refine v_iconst (v := 0) X (dk D_In_begin 10 rfl) (by decide) ?_
  refine v_putI X (dk D_In_begin 11 rfl) F_In_44 CK_In rfl rfl (hS.lt (by decide)) rfl rfl ?_
  refine v_aload_n X (dk D_In_begin 12 rfl) rfl ?_
  refine v_iconst (v := 0) X (dk D_In_begin 13 rfl) (by decide) ?_
  refine v_putI X (dk D_In_begin 14 rfl) F_In_47 CK_In rfl rfl (hS.lt (by decide)) rfl rfl ?_
  refine v_aload_n X (dk D_In_begin 15 rfl) rfl ?_
  refine v_aload_n X (dk D_In_begin 16 rfl) rfl ?_
  refine v_getF X (dk D_In_begin 17 rfl) F_In_30 rfl rfl (hS.lt (by decide)) (hS.2 7 8) ?_
  refine v_alen (v := nI _) X (dk D_In_begin 18 rfl) rfl rfl (hS.lt (by decide)) rfl ?_
  refine v_putI X (dk D_In_begin 19 rfl) F_In_34 CK_In rfl rfl (hS.lt (by decide)) rfl rfl ?_
  obtain ⟨z1, z2⟩ := n_In_begin hT hb hfu
  show Vv _ _ _ _ _ _ _ _ _ _ _ _ _ _ _ _ (0, 0, (xI (xI (xI (xI (xI (xR g 7 6 (some 1)) 7 10 (nI fu)) 7 5 0) 7 11 0) 7 7 0) 7 9 (nI 32768)))
  refine v_aload_n X (dk D_In_begin 20 rfl) rfl ?_
  refine v_invV (As := []) (st := []) X (k_useFirstQuotes l q (hS.sm z1) (hO.sm z1 (by decide) (by decide)) (hC.sm z1 (by decide) (by decide))) (dk D_In_begin 21 rfl) G_In_50 K_In_useFirstQuotes V_In_useFirstQuotes rfl rfl ((hS.sm z1).lt (by decide)) rfl rfl (Nat.le_of_ble_eq_true rfl) (Nat.le_of_ble_eq_true rfl) (Nat.le_of_ble_eq_true rfl) (Nat.le_of_ble_eq_true rfl) (Nat.le_of_ble_eq_true rfl) ?_
  rintro v w ⟨rfl, y1, y2, y3⟩
  show Vv _ _ _ _ _ _ _ _ _ _ _ _ _ _ _ [] (0, 0, w.2.2)
  exact v_vret X hlk hrt (dk D_In_begin 22 rfl) ⟨rfl, z1.tr y1 (by decide) (by decide), z2.sm y1 (by decide) (by decide) (by decide) (by decide), y2, y3⟩
theorem n_putBack {g : mu_T} {fu b r0 n0 ta : Nat} {I : Ip} {ys T bk : List Int32} {ov ot : Bool} (hT : RB g 1 2 32768 T ot) (hr : gR g 7 6 = some 1) (ha1 : ta ≤ T.length) (hat : gI g 7 7 = nI ta) (hu : I.1 = bk ++ T.drop ta) (hm : I.2.1 = T.length - ta) (hbk : ∀ j, j < bk.length → gI g 16 (32768 - bk.length + j) = bk.getD j 0) (hfu : gI g 7 10 = nI fu) (hfl : fu < 2147483647) (hff : I.2.2.1 ≤ fu) (htk : gI g 7 5 = nI (fu - I.2.2.1)) (hln : gI g 7 11 = nI I.2.2.2) (hl2 : I.2.2.2 ≤ ta) (hby : ∀ x ∈ I.1, isByte x) (hY : RB g b r0 n0 ys ov) (hr7 : r0 ≠ 7) (hr16 : r0 ≠ 16) (hyb : ∀ x ∈ ys, isByte x) (hl : ys.length + I.1.length ≤ 32768) : sm g (xA (xI g 7 9 (nI (32768 - bk.length - ys.length))) 16 (va_cpy (gI (xI g 7 9 (nI (32768 - bk.length - ys.length))) r0) (gI (xI g 7 9 (nI (32768 - bk.length - ys.length))) 16) 0 (32768 - bk.length - ys.length) ys.length)) [7, 16] ∧ kp g (xA (xI g 7 9 (nI (32768 - bk.length - ys.length))) 16 (va_cpy (gI (xI g 7 9 (nI (32768 - bk.length - ys.length))) r0) (gI (xI g 7 9 (nI (32768 - bk.length - ys.length))) 16) 0 (32768 - bk.length - ys.length) ys.length)) ∧ IQ (xA (xI g 7 9 (nI (32768 - bk.length - ys.length))) 16 (va_cpy (gI (xI g 7 9 (nI (32768 - bk.length - ys.length))) r0) (gI (xI g 7 9 (nI (32768 - bk.length - ys.length))) 16) 0 (32768 - bk.length - ys.length) ys.length)) fu (ys ++ I.1, I.2.1, I.2.2.1, I.2.2.2) := by
  have z : sm g (xA (xI g 7 9 (nI (32768 - bk.length - ys.length))) 16 (va_cpy (gI (xI g 7 9 (nI (32768 - bk.length - ys.length))) r0) (gI (xI g 7 9 (nI (32768 - bk.length - ys.length))) 16) 0 (32768 - bk.length - ys.length) ys.length)) [7, 16] := ((sm.rf g [7, 16]).xI (by simp)).xA (by simp)
  have hul : I.1.length = bk.length + (T.length - ta) := by rw [hu]; simp
  refine ⟨z, ⟨(gI_nA (by decide)).trans (gI_nk (by decide)), (gI_nA (by decide)).trans (gI_nk (by decide))⟩, T, ys ++ bk, ta, ⟨ot, hT.sm z (by decide) (by decide)⟩, hr, ha1, ?_, ?_, hm, ?_, fun j hj => ?_, ?_, hfl, hff, ?_, ?_, hl2, ?_, fun x hx => ?_⟩
  · rw [gI_nA (by decide), gI_nk (by decide)]; exact hat
  · show ys ++ I.1 = ys ++ bk ++ T.drop ta
    rw [hu, List.append_assoc]
  · rw [gI_nA (by decide), gI_eq, List.length_append]; exact congrArg nI (by omega)
  · rw [List.length_append] at hj ⊢
    rw [gI_A]
    simp only [va_cpy]
    rcases Nat.lt_or_ge j ys.length with y | y
    · rw [if_pos (by omega), gI_na hr7]
      rw [show 0 + (32768 - (ys.length + bk.length) + j - (32768 - bk.length - ys.length)) = j by omega, hY.2.2.2.2 j y]
      simp only [List.getD_eq_getElem?_getD]
      rw [List.getElem?_append_left y]
    · rw [if_neg (by omega), gI_na (by decide)]
      rw [show 32768 - (ys.length + bk.length) + j = 32768 - bk.length + (j - ys.length) by omega, hbk (j - ys.length) (by omega)]
      simp only [List.getD_eq_getElem?_getD]
      rw [List.getElem?_append_right y]
  · rw [gI_nA (by decide), gI_nk (by decide)]; exact hfu
  · rw [gI_nA (by decide), gI_nk (by decide)]; exact htk
  · rw [gI_nA (by decide), gI_nk (by decide)]; exact hln
  · show (ys ++ I.1).length ≤ 32768
    rw [List.length_append]; exact hl
  · rcases List.mem_append.mp hx with h | h
    · exact hyb x h
    · exact hby x h
set_option maxHeartbeats 4000000 in
set_option maxRecDepth 100000 in
theorem k_putBack (l : Launch) (q : ev_T) {fu b r0 n0 : Nat} {I : Ip} {ys : List Int32} {ov : Bool} {g : mu_T} (hS : Shp g) (hI : IQ g fu I) (hY : RB g b r0 n0 ys ov) (hn0 : n0 < 1073741824) (hb7 : b ≠ 7) (hr7 : r0 ≠ 7) (hr16 : r0 ≠ 16) (hyb : ∀ x ∈ ys, isByte x) : Ctr l q M_In_putBack 1 [.ref 7, .ref b] (0, 0, g) (fun v w => v = some (.int (if (ov = false ∧ ys.length + I.1.length ≤ 32768) then 1 else 0)) ∧ sm g w.2.2 [7, 16] ∧ kp g w.2.2 ∧ ((ov = false ∧ ys.length + I.1.length ≤ 32768) → IQ w.2.2 fu (ys ++ I.1, I.2.1, I.2.2.1, I.2.2.2)) ∧ (¬ (ov = false ∧ ys.length + I.1.length ≤ 32768) → w.2.2 = g)) := by
  have hI0 := hI
  obtain ⟨T, bk, ta, ⟨ot, hT⟩, hr, ha1, hat, hu, hm, hba, hbk, hfu, hfl, hff, htk, hln, hl2, h3, hby⟩ := hI
  have hul : I.1.length = bk.length + (T.length - ta) := by rw [hu]; simp
  have hyl : ys.length < 1073741824 := Nat.lt_of_le_of_lt hY.2.1 hn0
  have hYF : gF g b 0 = some r0 := hY.1.2.2.1
  have hyn := hY.2.1
  refine Ctr.mk (lb := [some (.ref 7), some (.ref b)]) (by decide +kernel) (Nat.le_of_ble_eq_true rfl) rfl rfl ?_
  intro pp ee ss mm aa bb mt cd X hrt hlk hnm
  refine v_aload_n X (dk D_In_putBack 0 rfl) rfl ?_
  refine v_getI X (dk D_In_putBack 1 rfl) F_In_70 rfl hY.1.1 hY.1.2.1 ?_
  refine v_if_ne (tgt := 32) X (dk D_In_putBack 2 rfl) (by decide) (fun c4 => ?_) (fun c4 => ?_)
  · refine v_iconst (v := 0) X (dk D_In_putBack 15 rfl) (by decide) ?_
    exact v_zret X hlk hrt rfl (dk D_In_putBack 16 rfl) (by have hc : ¬ (ov = false ∧ ys.length + I.1.length ≤ 32768) := (fun e => c4 (by rw [hY.2.2.2.1, e.1]; rfl)); rw [if_neg hc]; exact ⟨rfl, sm.rf _ _, kp.rf _, fun e => absurd e hc, fun _ => rfl⟩)
  · refine v_aload_n X (dk D_In_putBack 3 rfl) rfl ?_
    refine v_getI X (dk D_In_putBack 4 rfl) F_In_59 rfl hY.1.1 hY.1.2.1 ?_
    refine v_ldc X (dk D_In_putBack 5 rfl) C_In_23 ?_
    refine v_aload_n X (dk D_In_putBack 6 rfl) rfl ?_
    rw [hY.2.2.1]
    refine v_invV (As := []) (st := [.int 32768, .int (nI ys.length)]) X (k_left l q hS hI0) (dk D_In_putBack 7 rfl) G_In_66 K_In_left V_In_left rfl rfl (hS.lt (by decide)) rfl rfl (Nat.le_of_ble_eq_true rfl) (Nat.le_of_ble_eq_true rfl) (Nat.le_of_ble_eq_true rfl) (Nat.le_of_ble_eq_true rfl) (Nat.le_of_ble_eq_true rfl) ?_
    rintro v w ⟨rfl, hw⟩
    rw [hw]
    show Vv _ _ _ _ _ _ _ _ _ _ _ _ _ _ _ [.int (nI I.1.length), .int (nI 32768), .int (nI ys.length)] (0, 0, g)
    refine v_isub X (dk D_In_putBack 8 rfl) ?_
    rw [show nI 32768 - nI I.1.length = nI (32768 - I.1.length) from pk_sub (by omega)]
    refine v_icmp_gt (tgt := 32) X (dk D_In_putBack 9 rfl) (by decide) (fun c18 => ?_) (fun c18 => ?_)
    · refine v_iconst (v := 0) X (dk D_In_putBack 15 rfl) (by decide) ?_
      exact v_zret X hlk hrt rfl (dk D_In_putBack 16 rfl) (by have hc : ¬ (ov = false ∧ ys.length + I.1.length ≤ 32768) := (fun e => absurd c18 (nI_nlt (by omega) (by omega))); rw [if_neg hc]; exact ⟨rfl, sm.rf _ _, kp.rf _, fun e => absurd e hc, fun _ => rfl⟩)
    · have hroom : ys.length + I.1.length ≤ 32768 := by rcases Nat.lt_or_ge (32768 - I.1.length) ys.length with y | y; exact absurd (nI_lt y (by omega)) c18; omega
      refine v_aload_n X (dk D_In_putBack 10 rfl) rfl ?_
      refine v_getI X (dk D_In_putBack 11 rfl) F_In_59 rfl hY.1.1 hY.1.2.1 ?_
      refine v_aload_n X (dk D_In_putBack 12 rfl) rfl ?_
      refine v_getI X (dk D_In_putBack 13 rfl) F_In_34 rfl rfl (hS.lt (by decide)) ?_
      refine v_icmp_le (tgt := 34) X (dk D_In_putBack 14 rfl) (by decide) (fun _ => ?_) (fun c29 => absurd (by rw [hY.2.2.1, hba]; exact nI_le (by omega) (by omega)) c29)
      refine v_aload_n X (dk D_In_putBack 17 rfl) rfl ?_
      refine v_dup X (dk D_In_putBack 18 rfl) rfl ?_
      refine v_getI X (dk D_In_putBack 19 rfl) F_In_34 rfl rfl (hS.lt (by decide)) ?_
      refine v_aload_n X (dk D_In_putBack 20 rfl) rfl ?_
      refine v_getI X (dk D_In_putBack 21 rfl) F_In_59 rfl hY.1.1 hY.1.2.1 ?_
      rw [hba, hY.2.2.1]
      refine v_isub X (dk D_In_putBack 22 rfl) ?_
      rw [pk_sub (by omega)]
      refine v_putI X (dk D_In_putBack 23 rfl) F_In_34 CK_In rfl rfl (hS.lt (by decide)) rfl rfl ?_
      refine v_aload_n X (dk D_In_putBack 24 rfl) rfl ?_
      refine v_getF X (dk D_In_putBack 25 rfl) F_In_74 rfl hY.1.1 hY.1.2.1 hYF ?_
      refine v_iconst (v := 0) X (dk D_In_putBack 26 rfl) (by decide) ?_
      refine v_aload_n X (dk D_In_putBack 27 rfl) rfl ?_
      refine v_getF X (dk D_In_putBack 28 rfl) F_In_30 rfl rfl (hS.lt (by decide)) (hS.2 7 8) ?_
      refine v_aload_n X (dk D_In_putBack 29 rfl) rfl ?_
      refine v_getI X (dk D_In_putBack 30 rfl) F_In_34 rfl rfl (hS.lt (by decide)) ?_
      rw [gI_eq]
      refine v_aload_n X (dk D_In_putBack 31 rfl) rfl ?_
      refine v_getI X (dk D_In_putBack 32 rfl) F_In_59 rfl hY.1.1 hY.1.2.1 ?_
      rw [gI_na hb7, hY.2.2.1]
      refine v_copy (t := 0) (ty := .int) X (dk D_In_putBack 33 rfl) G_In_77 W_acN W_acS W_sysI hY.1.2.2.2.1 rfl hY.1.2.2.2.2.1 (hS.lt (by decide)) (by decide) (nI_pos (by omega)) (nI_pos (by omega)) (by rw [nI_clamp (by omega)]; show 0 + ys.length ≤ n0; omega) (by rw [nI_clamp (by omega), nI_clamp (by omega)]; omega) (Nat.le_of_ble_eq_true rfl) (Nat.le_of_ble_eq_true rfl) (Nat.le_of_ble_eq_true rfl) (f := va_cpy (gI (xI g 7 9 (nI (32768 - bk.length - ys.length))) r0) (gI (xI g 7 9 (nI (32768 - bk.length - ys.length))) 16) 0 (32768 - bk.length - ys.length) ys.length) (by rw [nI_clamp (by omega), nI_clamp (by omega)]; rfl) ?_
      refine v_iconst (v := 1) X (dk D_In_putBack 34 rfl) (by decide) ?_
      exact v_zret X hlk hrt rfl (dk D_In_putBack 35 rfl) (by have hc : (ov = false ∧ ys.length + I.1.length ≤ 32768) := ⟨by rw [hY.2.2.2.1] at c4; cases ov; rfl; exact absurd c4 (by decide), hroom⟩; rw [if_pos hc]; have hn := n_putBack hT hr ha1 hat hu hm hbk hfu hfl hff htk hln hl2 hby hY hr7 hr16 hyb hroom; exact ⟨rfl, hn.1, hn.2.1, fun _ => hn.2.2, fun e => absurd hc e⟩)
