/-! Diversions: forget, add, bring, gather -/
theorem isC_D {g : mu_T} (hS : Shp g) : isC g 983 984 985 32768 := ⟨rfl, hS.lt (by decide), hS.2 983 0, hS.2 983 1, rfl, hS.lt (by decide), rfl, hS.lt (by decide), by decide⟩
theorem isH_D {g : mu_T} (hS : Shp g) {i : Nat} (h : i < 10) : isH g (987 + i) := by
  refine ⟨?_, hS.lt (by omega)⟩
  rcases (show i = 0 ∨ i = 1 ∨ i = 2 ∨ i = 3 ∨ i = 4 ∨ i = 5 ∨ i = 6 ∨ i = 7 ∨ i = 8 ∨ i = 9 by omega) with rfl | rfl | rfl | rfl | rfl | rfl | rfl | rfl | rfl | rfl <;> rfl
theorem DR.sm {g k : mu_T} {S : List Nat} (h : DR g) (z : sm g k S) (h9 : 986 ∉ S := by first | decide | (simp; omega)) : DR k := fun i hi => by rw [z.R h9]; exact h i hi
theorem CW_empty {g : mu_T} (hS : Shp g) (h2 : gI g 983 2 = 0) (h3 : gI g 983 3 = -1) (h4 : gI g 983 4 = 0) (hc : ∀ j, j < 10 → gI g (987 + j) 0 = -1 ∧ gI g (987 + j) 1 = -1 ∧ gI g (987 + j) 2 = 0) : CW g 983 984 985 32768 SD (fun _ => []) [] 0 := by
  refine ⟨isC_D hS, by decide, by decide, fun j hj => ?_, h2, h3, h4, by decide, rfl, fun p hp => absurd hp List.not_mem_nil, List.nodup_nil, fun j hj => ⟨List.nodup_nil, fun p hp => absurd hp List.not_mem_nil⟩, fun j hj i hi p hp => absurd hp List.not_mem_nil⟩
  obtain ⟨i, hi, rfl⟩ := SD_of hj
  obtain ⟨a, b, c⟩ := hc i hi
  exact CH.nil (isH_D hS hi) a b c
set_option maxHeartbeats 4000000 in
set_option maxRecDepth 100000 in
theorem k_Di_forget (l : Launch) (q : ev_T) {g : mu_T} (hS : Shp g) (hR : DR g) : Ctr l q M_Di_forget 1 [.ref 982] (0, 0, g) (fun v w => v = none ∧ sm g w.2.2 DS ∧ DV w.2.2 0 (fun _ => [])) := by
  have z1 : sm g (xI (xI (xI g 983 2 0) 983 3 (-1)) 983 4 0) DS := (((sm.rf g _).xI (by decide)).xI (by decide)).xI (by decide)
  refine Ctr.mk (lb := [some (.ref 982), none]) (by decide +kernel) (Nat.le_of_ble_eq_true rfl) rfl rfl ?_
  intro pp ee ss mm aa bb mt cd X hrt hlk hnm
  have loop : ∀ (d j : Nat) (u : mu_T), j + d = 10 → sm g u DS → Shp u → DR u → gI u 983 2 = 0 → gI u 983 3 = -1 → gI u 983 4 = 0 → (∀ i, i < j → gI u (987 + i) 0 = -1 ∧ gI u (987 + i) 1 = -1 ∧ gI u (987 + i) 2 = 0) → Vv pp l ee (rmT 1 0 0) ss mm aa bb mt cd 2 q (MQ bb (Qw q (fun v w => v = none ∧ sm g w.2.2 DS ∧ DV w.2.2 0 (fun _ => []))) aa ss 0 0 (fun a => q.1 ≤ a)) 9 [some (.ref 982), some (.int (nI j))] [] (0, 0, u) := by
    intro d
    induction d with
    | zero =>
      intro j u hjd hs hSu hRu e2 e3 e4 hc
      refine v_iload_n X (dk D_Di_forget 5 rfl) rfl ?_
      refine v_aload_n X (dk D_Di_forget 6 rfl) rfl ?_
      refine v_getF X (dk D_Di_forget 7 rfl) F_Di_23 rfl rfl (hSu.lt (by decide)) (hSu.2 982 2) ?_
      refine v_alen (v := nI _) X (dk D_Di_forget 8 rfl) rfl rfl (hSu.lt (by decide)) rfl ?_
      refine v_icmp_ge (tgt := 33) X (dk D_Di_forget 9 rfl) (by decide) (fun _ => ?_) (fun c15 => absurd (nI_le (a := 10) (by omega) (by omega)) c15)
      refine v_aload_n X (dk D_Di_forget 17 rfl) rfl ?_
      refine v_iconst (v := 0) X (dk D_Di_forget 18 rfl) (by decide) ?_
      refine v_putI X (dk D_Di_forget 19 rfl) F_Di_34 CK_Di rfl rfl (hSu.lt (by decide)) rfl rfl ?_
      exact v_vret X hlk hrt (dk D_Di_forget 20 rfl) ⟨rfl, hs.xI (by decide), gI_eq _ _ _ _, Or.inr ⟨0, by decide, rfl⟩, _, _, _, CW_empty (hSu.sm ((sm.rf u [982]).xI (by simp))) ((gI_na (by decide)).trans e2) ((gI_na (by decide)).trans e3) ((gI_na (by decide)).trans e4) (fun i hi => ⟨(gI_na (by omega)).trans (hc i (by omega)).1, (gI_na (by omega)).trans (hc i (by omega)).2.1, (gI_na (by omega)).trans (hc i (by omega)).2.2⟩), fun i hi => rfl⟩
    | succ d ih =>
      intro j u hjd hs hSu hRu e2 e3 e4 hc
      obtain ⟨g1, g2, g3, g4⟩ := loosen_facts u (987 + j)
      refine v_iload_n X (dk D_Di_forget 5 rfl) rfl ?_
      refine v_aload_n X (dk D_Di_forget 6 rfl) rfl ?_
      refine v_getF X (dk D_Di_forget 7 rfl) F_Di_23 rfl rfl (hSu.lt (by decide)) (hSu.2 982 2) ?_
      refine v_alen (v := nI _) X (dk D_Di_forget 8 rfl) rfl rfl (hSu.lt (by decide)) rfl ?_
      refine v_icmp_ge (tgt := 33) X (dk D_Di_forget 9 rfl) (by decide) (fun c15 => absurd c15 (nI_ge (b := 10) (by omega) (by omega))) (fun _ => ?_)
      refine v_aload_n X (dk D_Di_forget 10 rfl) rfl ?_
      refine v_getF X (dk D_Di_forget 11 rfl) F_Di_23 rfl rfl (hSu.lt (by decide)) (hSu.2 982 2) ?_
      refine v_iload_n X (dk D_Di_forget 12 rfl) rfl ?_
      refine v_aaldR (b := 987 + j) X (dk D_Di_forget 13 rfl) rfl rfl (by decide) (hSu.lt (by decide)) (vp_in_nI (show j < 10 by omega) (by decide)) (by rw [nI_clamp (by omega)]; exact hRu j (by omega)) ?_
      refine v_invV (As := []) (st := []) X (c_Ch_loosen l q (isH_D hSu (i := j) (by omega))) (dk D_Di_forget 14 rfl) G_Di_31 K_Ch_loosen V_Ch_loosen (isH_D hSu (i := j) (by omega)).1 rfl (isH_D hSu (i := j) (by omega)).2 rfl rfl (Nat.le_of_ble_eq_true rfl) (Nat.le_of_ble_eq_true rfl) (Nat.le_of_ble_eq_true rfl) (Nat.le_of_ble_eq_true rfl) (Nat.le_of_ble_eq_true rfl) ?_
      rintro v w ⟨rfl, hw⟩
      rw [hw]
      show Vv _ _ _ _ _ _ _ _ _ _ _ _ _ _ _ [] (0, 0, xI (xI (xI u (987 + j) 0 (-1)) (987 + j) 1 (-1)) (987 + j) 2 0)
      refine v_iinc (v := nI (j + 1)) (lb := [some (.ref 982), some (.int (nI (j + 1)))]) X (dk D_Di_forget 15 rfl) rfl (nI_1 j) (by decide) rfl ?_
      refine v_goto (tgt := 9) X (dk D_Di_forget 16 rfl) (by decide) ?_
      refine ih (j + 1) _ (by omega) (hs.tr g1 (fun _ z => z) (fun a z => by rw [List.mem_singleton] at z; rw [z]; exact SD_DS (by omega))) (hSu.sm g1) (hRu.sm g1) ((g1.I (by simp; omega) 2).trans e2) ((g1.I (by simp; omega) 3).trans e3) ((g1.I (by simp; omega) 4).trans e4) (fun i hi => ?_)
      by_cases hij : i = j
      · subst hij; exact ⟨g2, g3, g4⟩
      · rw [g1.I (by simp; omega), g1.I (by simp; omega), g1.I (by simp; omega)]; exact hc i (by omega)
  refine v_aload_n X (dk D_Di_forget 0 rfl) rfl ?_
  refine v_getF X (dk D_Di_forget 1 rfl) F_Di_15 rfl rfl (hS.lt (by decide)) (hS.2 982 1) ?_
  refine v_invV (As := []) (st := []) X (c_Ce_forget l q (isC_D hS)) (dk D_Di_forget 2 rfl) G_Di_28 K_Ce_forget V_Ce_forget rfl rfl (hS.lt (by decide)) rfl rfl (Nat.le_of_ble_eq_true rfl) (Nat.le_of_ble_eq_true rfl) (Nat.le_of_ble_eq_true rfl) (Nat.le_of_ble_eq_true rfl) (Nat.le_of_ble_eq_true rfl) ?_
  rintro v w ⟨rfl, hw⟩
  rw [hw]
  show Vv _ _ _ _ _ _ _ _ _ _ _ _ _ _ _ [] (0, 0, xI (xI (xI g 983 2 0) 983 3 (-1)) 983 4 0)
  refine v_iconst (v := nI 0) X (dk D_Di_forget 3 rfl) (by decide) ?_
  refine v_istore_n (lb := [some (.ref 982), some (.int (nI 0))]) X (dk D_Di_forget 4 rfl) (by decide) rfl ?_
  exact loop 10 0 _ (by omega) z1 (hS.sm z1) (hR.sm z1) (by rw [gI_nk (by decide), gI_nk (by decide), gI_eq]) (by rw [gI_nk (by decide), gI_eq]) (gI_eq _ _ _ _) (fun i hi => absurd hi (by omega))
theorem d_add {g : mu_T} {w : mm_T} {cur : Int32} {D : Nat → List Int32} {ys : List Int32} {ch : Nat → List Nat} {fl : List Nat} {fr ci : Nat} (hci : ci < 10) (hcur : cur = nI ci) (hX : ∀ i, i < 10 → bys g 984 (ch (987 + i)) = D i) (h1 : gI g 982 0 = cur) 
    (hw : if tot SD ch + ys.length ≤ 32768 then sm g w.2.2 [983, 984, 985, 987 + ci] ∧ ∃ (ps fl2 : List Nat) (fr2 : Nat), CW w.2.2 983 984 985 32768 SD (va_up ch (987 + ci) (ch (987 + ci) ++ ps)) fl2 fr2 ∧ ps.length = ys.length ∧ bys w.2.2 984 (ch (987 + ci) ++ ps) = bys g 984 (ch (987 + ci)) ++ (ys.drop 0).take ys.length ∧ ∀ j ∈ SD, j ≠ 987 + ci → bys w.2.2 984 (ch j) = bys g 984 (ch j) else w.2.2 = g) (hW : CW g 983 984 985 32768 SD ch fl fr) :
    (some (Value.int (if tot SD ch + ys.length ≤ 32768 then 1 else 0)) : Option Value) = some (.int (if cur = -1 ∨ dvt D + ys.length ≤ 32768 then 1 else 0)) ∧ sm g w.2.2 DS ∧ DV w.2.2 cur (if cur = -1 ∨ ¬ dvt D + ys.length ≤ 32768 then D else va_up D cur.toNatClampNeg (D cur.toNatClampNeg ++ ys)) := by
  have hne : ¬ cur = -1 := fun e => by
    rw [hcur] at e
    have := nI_pos (n := ci) (by omega)
    rw [e] at this
    exact this (by decide)
  have ht := dvt_tot hX
  rw [ht] at hw ⊢
  by_cases hr : dvt D + ys.length ≤ 32768
  · rw [if_pos hr] at hw
    obtain ⟨z, ps, fl2, fr2, q1, q2, q3, q4⟩ := hw
    have z2 : sm g w.2.2 DS := z.mono (fun a ha => by
      simp only [List.mem_cons, List.not_mem_nil, or_false] at ha
      rcases ha with rfl | rfl | rfl | rfl
      · decide
      · decide
      · decide
      · exact SD_DS hci)
    refine ⟨by rw [if_pos hr, if_pos (Or.inr hr)], z2, ?_⟩
    rw [if_neg (n2 hne (fun x => x hr))]
    refine ⟨by rw [z.I (by simp; omega)]; exact h1, Or.inr ⟨ci, hci, hcur⟩, _, fl2, fr2, q1, fun i hi => ?_⟩
    rw [hcur, nI_clamp (by omega)]
    by_cases hic : i = ci
    · subst hic
      rw [va_up_eq, va_up_eq, q3, hX i hi, List.drop_zero, List.take_length]
    · rw [va_up_ne' (by omega), va_up_ne' hic, q4 _ (SD_mem hi) (by omega), hX i hi]
  · rw [if_neg hr] at hw
    refine ⟨by rw [if_neg hr, if_neg (n2 hne hr)], by rw [hw]; exact sm.rf _ _, ?_⟩
    rw [if_pos (Or.inr hr), hw]
    exact ⟨h1, Or.inr ⟨ci, hci, hcur⟩, ch, fl, fr, hW, hX⟩
set_option maxHeartbeats 4000000 in
set_option maxRecDepth 100000 in
theorem k_Di_add (l : Launch) (q : ev_T) {b r n : Nat} {cur : Int32} {D : Nat → List Int32} {ys : List Int32} {ov : Bool} {g : mu_T} (hS : Shp g) (hR : DR g) (hD : DV g cur D) (hB : RB g b r n ys ov) (hyb : ∀ j, j < ys.length → (ys.getD j 0).toInt8.toInt32 = ys.getD j 0) (hbr : b < 980 ∧ r < 980) (hn30 : n < 1073741824) : Ctr l q M_Di_add 2 [.ref 982, .ref b] (0, 0, g) (fun v w => v = some (.int (if cur = -1 ∨ dvt D + ys.length ≤ 32768 then 1 else 0)) ∧ sm g w.2.2 DS ∧ DV w.2.2 cur (if cur = -1 ∨ ¬ dvt D + ys.length ≤ 32768 then D else va_up D cur.toNatClampNeg (D cur.toNatClampNeg ++ ys))) := by
  refine Ctr.mk (lb := [some (.ref 982), some (.ref b)]) (by decide +kernel) (Nat.le_of_ble_eq_true rfl) rfl rfl ?_
  intro pp ee ss mm aa bb mt cd X hrt hlk hnm
  obtain ⟨h1, h2, ch, fl, fr, hW, hX⟩ := hD
  rcases h2 with hcur | ⟨ci, hci, hcur⟩
  · refine v_aload_n X (dk D_Di_add 0 rfl) rfl ?_
    refine v_getI X (dk D_Di_add 1 rfl) F_Di_34 rfl rfl (hS.lt (by decide)) ?_
    refine v_if_lt (tgt := 19) X (dk D_Di_add 2 rfl) (by decide) (fun _ => ?_) (fun c4 => absurd (by rw [h1, hcur]; decide) c4)
    refine v_iconst (v := 1) X (dk D_Di_add 9 rfl) (by decide) ?_
    exact v_zret X hlk hrt rfl (dk D_Di_add 10 rfl) ⟨by rw [if_pos (Or.inl hcur)], sm.rf _ _, by rw [if_pos (Or.inl hcur)]; exact ⟨h1, Or.inl hcur, ch, fl, fr, hW, hX⟩⟩
  · have hcu : gI g 982 0 = nI ci := h1.trans hcur
    have hfree0 : b ∉ [983, 984, 985, 987 + ci] ∧ r ∉ [983, 984, 985, 987 + ci] := ⟨by simp only [List.mem_cons, List.not_mem_nil, or_false]; omega, by simp only [List.mem_cons, List.not_mem_nil, or_false]; omega⟩
    have hyl : ys.length ≤ n := hB.2.1
    refine v_aload_n X (dk D_Di_add 0 rfl) rfl ?_
    refine v_getI X (dk D_Di_add 1 rfl) F_Di_34 rfl rfl (hS.lt (by decide)) ?_
    refine v_if_lt (tgt := 19) X (dk D_Di_add 2 rfl) (by decide) (fun c4 => absurd c4 (by rw [hcu]; exact nI_pos (by omega))) (fun _ => ?_)
    refine v_aload_n X (dk D_Di_add 3 rfl) rfl ?_
    refine v_getI X (dk D_Di_add 4 rfl) F_Di_34 rfl rfl (hS.lt (by decide)) ?_
    refine v_aload_n X (dk D_Di_add 5 rfl) rfl ?_
    refine v_getF X (dk D_Di_add 6 rfl) F_Di_23 rfl rfl (hS.lt (by decide)) (hS.2 982 2) ?_
    refine v_alen (v := nI _) X (dk D_Di_add 7 rfl) rfl rfl (hS.lt (by decide)) rfl ?_
    refine v_icmp_lt (tgt := 21) X (dk D_Di_add 8 rfl) (by decide) (fun _ => ?_) (fun c16 => absurd (by rw [hcu]; exact nI_lt hci (by decide)) c16)
    refine v_aload_n X (dk D_Di_add 11 rfl) rfl ?_
    refine v_getF X (dk D_Di_add 12 rfl) F_Di_15 rfl rfl (hS.lt (by decide)) (hS.2 982 1) ?_
    refine v_aload_n X (dk D_Di_add 13 rfl) rfl ?_
    refine v_getF X (dk D_Di_add 14 rfl) F_Di_23 rfl rfl (hS.lt (by decide)) (hS.2 982 2) ?_
    refine v_aload_n X (dk D_Di_add 15 rfl) rfl ?_
    refine v_getI X (dk D_Di_add 16 rfl) F_Di_34 rfl rfl (hS.lt (by decide)) ?_
    refine v_aaldR (b := 987 + ci) X (dk D_Di_add 17 rfl) rfl rfl (by decide) (hS.lt (by decide)) (by rw [hcu]; exact vp_in_nI hci (by decide)) (by rw [hcu, nI_clamp (by omega)]; exact hR ci hci) ?_
    refine v_aload_n X (dk D_Di_add 18 rfl) rfl ?_
    refine v_iconst (v := nI 0) X (dk D_Di_add 19 rfl) (by decide) ?_
    refine v_aload_n X (dk D_Di_add 20 rfl) rfl ?_
    refine v_getI X (dk D_Di_add 21 rfl) F_Di_38 rfl hB.1.1 hB.1.2.1 ?_
    rw [hB.2.2.1]
    refine v_invV (As := [.ref (987 + ci), .ref b, .int (nI 0), .int (nI ys.length)]) (st := []) X (k_Ce_add l q (st := 0) (k := ys.length) hW (SD_mem hci) hB hyb hfree0 (by omega) (by omega)) (dk D_Di_add 22 rfl) G_Di_43 K_Ce_add V_Ce_add rfl rfl (hS.lt (by decide)) rfl rfl (Nat.le_of_ble_eq_true rfl) (Nat.le_of_ble_eq_true rfl) (Nat.le_of_ble_eq_true rfl) (Nat.le_of_ble_eq_true rfl) (Nat.le_of_ble_eq_true rfl) ?_
    rintro v w ⟨rfl, hw⟩
    show Vv _ _ _ _ _ _ _ _ _ _ _ _ _ _ _ [.int (if tot SD ch + ys.length ≤ 32768 then 1 else 0)] (0, 0, w.2.2)
    exact v_zret X hlk hrt (by split <;> rfl) (dk D_Di_add 23 rfl) (d_add hci hcur hX h1 hw hW)
