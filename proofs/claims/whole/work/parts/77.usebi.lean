/-! built-in macros: which one -/
theorem DS_MA : ∀ a ∈ DS, a ∉ MA := fun a h => by rw [MA_mem]; simp [DS] at h; omega
set_option maxHeartbeats 4000000 in
set_option maxRecDepth 100000 in
theorem k_useBuiltIn (l : Launch) (q : ev_T) {j fu : Nat} {S : Mst} {f : Fr} {r : List Fr} {F : List Int32} {g : mu_T} (hj : j < 17) (hW : MW g fu S) (hfs : S.2.2.1.1 = f :: r) (hR : RE g F) : Ctr l q M_Mi_useBuiltIn 8 [.ref 0, .ref (1048576 + j)] (0, 0, g) (fun v w => v = some (.int (bI j S f).1) ∧ sm g w.2.2 RN ∧ MW w.2.2 fu (bI j S f).2.1 ∧ RE w.2.2 (F ++ (bI j S f).2.2)) := by
  obtain ⟨hS, hDR, hMR, hI, ⟨oo, hO⟩, ⟨oc, hQ⟩, hC, hP, hD, -, -⟩ := id hW
  rw [hfs] at hC
  have hix : (f.2.1.getD 0 []).length + (f.2.1.getD 1 []).length ≤ 16384 := by
    have h1 := ag_le (f := f) (r := r) 1
    have h2 := hC.1.2.1
    have h3 : stA f r 1 = stA f r 0 + (f.2.1.getD 0 []).length := stA_succ (i := 0)
    omega
  refine Ctr.mk (lb := [some (.ref 0), some (.ref (1048576 + j))]) (by decide +kernel) (Nat.le_of_ble_eq_true rfl) rfl rfl ?_
  intro pp ee ss mm aa bb mt cd X hrt hlk hnm
  refine v_inv (fun hBB _ => ?_)
  have hfb := RB_byte hBB hC.1
  have hc : j = 0 ∨ j = 1 ∨ j = 2 ∨ j = 3 ∨ j = 4 ∨ j = 5 ∨ j = 6 ∨ j = 7 ∨ j = 8 ∨ j = 9 ∨ j = 10 ∨ j = 11 ∨ j = 12 ∨ j = 13 ∨ j = 14 ∨ j = 15 ∨ j = 16 := by omega
  rcases hc with rfl | rfl | rfl | rfl | rfl | rfl | rfl | rfl | rfl | rfl | rfl | rfl | rfl | rfl | rfl | rfl | rfl
  · refine v_gets (v := .ref 1048752) X (dk D_Mi_useBuiltIn 0 rfl) (Or.inl Z_Mi_295) X.sf.2.2.2.2.2.1.1 ?_
    refine v_aload_n X (dk D_Mi_useBuiltIn 1 rfl) rfl ?_
    refine v_invVU (C := "RescanMill$BuiltIn") (x := ⟨"RescanMill$BuiltIn", "ordinal", "()I"⟩) (M := M_En_ordinal) (b := 1048576 + 0) (As := []) (st := [.ref 1048752]) X (c_ordB l q (i := 0) (by decide)) (dk D_Mi_useBuiltIn 2 rfl) G_Mi_300 same_B sel_B I_En_ordinal rfl K_En_ordinal (X.sf.1 0 (by decide)).1 rfl rfl (Nat.le_of_ble_eq_true rfl) (Nat.le_of_ble_eq_true rfl) (Nat.le_of_ble_eq_true rfl) (Nat.le_of_ble_eq_true rfl) (Nat.le_of_ble_eq_true rfl) ⟨by decide, by decide, by decide +kernel⟩ ?_
    rintro v w ⟨rfl, hw⟩
    rw [hw]
    show Vv _ _ _ _ _ _ _ _ _ _ _ _ _ _ _ [.int (nI 0), .ref 1048752] (0, 0, g)
    refine v_siald (v := .int 1) X (dk D_Mi_useBuiltIn 3 rfl) X.sf.2.2.2.2.2.1.2 (vp_in_nI (show 0 < 17 by decide) (by decide)) (by rw [nI_clamp (by decide)]; rfl) ?_
    refine v_tableIn (tgt := 92) X (dk D_Mi_useBuiltIn 4 rfl) (by decide) (by decide) rfl (by decide) ?_
    refine v_aload_n X (dk D_Mi_useBuiltIn 5 rfl) rfl ?_
    refine v_iconst (v := 0) X (dk D_Mi_useBuiltIn 6 rfl) (by decide) ?_
    refine v_invV (As := [.int 0]) (st := []) X (k_define l q (onTop := false) hS hC hfb hP) (dk D_Mi_useBuiltIn 7 rfl) G_Mi_303 K_Mi_define V_Mi_define rfl rfl (hS.lt (by decide)) rfl rfl (Nat.le_of_ble_eq_true rfl) (Nat.le_of_ble_eq_true rfl) (Nat.le_of_ble_eq_true rfl) (Nat.le_of_ble_eq_true rfl) (Nat.le_of_ble_eq_true rfl) ?_
    rintro v w ⟨rfl, y1, y2⟩
    show Vv _ _ _ _ _ _ _ _ _ _ _ _ _ _ _ [.int _] (0, 0, w.2.2)
    exact v_iret X hlk hrt (dk D_Mi_useBuiltIn 8 rfl) ⟨rfl, y1.mono RN_MA, (hW.gen y1 MA_30 (by rw [MA_mem]; omega) (Or.inr ⟨rfl, by rw [MA_mem]; omega, by rw [MA_mem]; omega, by rw [MA_mem]; omega, by rw [MA_mem]; omega⟩) (Or.inr ⟨rfl, by rw [MA_mem]; omega, by rw [MA_mem]; omega, by rw [MA_mem]; omega, by rw [MA_mem]; omega⟩) (Or.inr ⟨rfl, MA_CS⟩) (Or.inl y2) (Or.inr ⟨rfl, DS_MA⟩) (Or.inr ⟨by rw [MA_mem]; omega, by rw [MA_mem]; omega⟩) (Or.inr ⟨by rw [MA_mem]; omega, by rw [MA_mem]; omega⟩)), by show RE _ (F ++ []); rw [List.append_nil]; exact hR.sm y1 (by rw [MA_mem]; omega) (by rw [MA_mem]; omega)⟩
  · refine v_gets (v := .ref 1048752) X (dk D_Mi_useBuiltIn 0 rfl) (Or.inl Z_Mi_295) X.sf.2.2.2.2.2.1.1 ?_
    refine v_aload_n X (dk D_Mi_useBuiltIn 1 rfl) rfl ?_
    refine v_invVU (C := "RescanMill$BuiltIn") (x := ⟨"RescanMill$BuiltIn", "ordinal", "()I"⟩) (M := M_En_ordinal) (b := 1048576 + 1) (As := []) (st := [.ref 1048752]) X (c_ordB l q (i := 1) (by decide)) (dk D_Mi_useBuiltIn 2 rfl) G_Mi_300 same_B sel_B I_En_ordinal rfl K_En_ordinal (X.sf.1 1 (by decide)).1 rfl rfl (Nat.le_of_ble_eq_true rfl) (Nat.le_of_ble_eq_true rfl) (Nat.le_of_ble_eq_true rfl) (Nat.le_of_ble_eq_true rfl) (Nat.le_of_ble_eq_true rfl) ⟨by decide, by decide, by decide +kernel⟩ ?_
    rintro v w ⟨rfl, hw⟩
    rw [hw]
    show Vv _ _ _ _ _ _ _ _ _ _ _ _ _ _ _ [.int (nI 1), .ref 1048752] (0, 0, g)
    refine v_siald (v := .int 2) X (dk D_Mi_useBuiltIn 3 rfl) X.sf.2.2.2.2.2.1.2 (vp_in_nI (show 1 < 17 by decide) (by decide)) (by rw [nI_clamp (by decide)]; rfl) ?_
    refine v_tableIn (tgt := 98) X (dk D_Mi_useBuiltIn 4 rfl) (by decide) (by decide) rfl (by decide) ?_
    refine v_aload_n X (dk D_Mi_useBuiltIn 9 rfl) rfl ?_
    refine v_iconst (v := 1) X (dk D_Mi_useBuiltIn 10 rfl) (by decide) ?_
    refine v_invV (As := [.int 1]) (st := []) X (k_define l q (onTop := true) hS hC hfb hP) (dk D_Mi_useBuiltIn 11 rfl) G_Mi_303 K_Mi_define V_Mi_define rfl rfl (hS.lt (by decide)) rfl rfl (Nat.le_of_ble_eq_true rfl) (Nat.le_of_ble_eq_true rfl) (Nat.le_of_ble_eq_true rfl) (Nat.le_of_ble_eq_true rfl) (Nat.le_of_ble_eq_true rfl) ?_
    rintro v w ⟨rfl, y1, y2⟩
    show Vv _ _ _ _ _ _ _ _ _ _ _ _ _ _ _ [.int _] (0, 0, w.2.2)
    exact v_iret X hlk hrt (dk D_Mi_useBuiltIn 12 rfl) ⟨rfl, y1.mono RN_MA, (hW.gen y1 MA_30 (by rw [MA_mem]; omega) (Or.inr ⟨rfl, by rw [MA_mem]; omega, by rw [MA_mem]; omega, by rw [MA_mem]; omega, by rw [MA_mem]; omega⟩) (Or.inr ⟨rfl, by rw [MA_mem]; omega, by rw [MA_mem]; omega, by rw [MA_mem]; omega, by rw [MA_mem]; omega⟩) (Or.inr ⟨rfl, MA_CS⟩) (Or.inl y2) (Or.inr ⟨rfl, DS_MA⟩) (Or.inr ⟨by rw [MA_mem]; omega, by rw [MA_mem]; omega⟩) (Or.inr ⟨by rw [MA_mem]; omega, by rw [MA_mem]; omega⟩)), by show RE _ (F ++ []); rw [List.append_nil]; exact hR.sm y1 (by rw [MA_mem]; omega) (by rw [MA_mem]; omega)⟩
  · refine v_gets (v := .ref 1048752) X (dk D_Mi_useBuiltIn 0 rfl) (Or.inl Z_Mi_295) X.sf.2.2.2.2.2.1.1 ?_
    refine v_aload_n X (dk D_Mi_useBuiltIn 1 rfl) rfl ?_
    refine v_invVU (C := "RescanMill$BuiltIn") (x := ⟨"RescanMill$BuiltIn", "ordinal", "()I"⟩) (M := M_En_ordinal) (b := 1048576 + 2) (As := []) (st := [.ref 1048752]) X (c_ordB l q (i := 2) (by decide)) (dk D_Mi_useBuiltIn 2 rfl) G_Mi_300 same_B sel_B I_En_ordinal rfl K_En_ordinal (X.sf.1 2 (by decide)).1 rfl rfl (Nat.le_of_ble_eq_true rfl) (Nat.le_of_ble_eq_true rfl) (Nat.le_of_ble_eq_true rfl) (Nat.le_of_ble_eq_true rfl) (Nat.le_of_ble_eq_true rfl) ⟨by decide, by decide, by decide +kernel⟩ ?_
    rintro v w ⟨rfl, hw⟩
    rw [hw]
    show Vv _ _ _ _ _ _ _ _ _ _ _ _ _ _ _ [.int (nI 2), .ref 1048752] (0, 0, g)
    refine v_siald (v := .int 3) X (dk D_Mi_useBuiltIn 3 rfl) X.sf.2.2.2.2.2.1.2 (vp_in_nI (show 2 < 17 by decide) (by decide)) (by rw [nI_clamp (by decide)]; rfl) ?_
    refine v_tableIn (tgt := 104) X (dk D_Mi_useBuiltIn 4 rfl) (by decide) (by decide) rfl (by decide) ?_
    refine v_aload_n X (dk D_Mi_useBuiltIn 13 rfl) rfl ?_
    refine v_iconst (v := 1) X (dk D_Mi_useBuiltIn 14 rfl) (by decide) ?_
    refine v_invV (As := [.int 1]) (st := []) X (k_takeMeanings l q (all := true) hS hC hfb hP) (dk D_Mi_useBuiltIn 15 rfl) G_Mi_307 K_Mi_takeMeanings V_Mi_takeMeanings rfl rfl (hS.lt (by decide)) rfl rfl (Nat.le_of_ble_eq_true rfl) (Nat.le_of_ble_eq_true rfl) (Nat.le_of_ble_eq_true rfl) (Nat.le_of_ble_eq_true rfl) (Nat.le_of_ble_eq_true rfl) ?_
    rintro v w ⟨rfl, y1, y2⟩
    show Vv _ _ _ _ _ _ _ _ _ _ _ _ _ _ _ [.int _] (0, 0, w.2.2)
    exact v_iret X hlk hrt (dk D_Mi_useBuiltIn 16 rfl) ⟨rfl, y1.mono RN_MA, (hW.gen y1 MA_30 (by rw [MA_mem]; omega) (Or.inr ⟨rfl, by rw [MA_mem]; omega, by rw [MA_mem]; omega, by rw [MA_mem]; omega, by rw [MA_mem]; omega⟩) (Or.inr ⟨rfl, by rw [MA_mem]; omega, by rw [MA_mem]; omega, by rw [MA_mem]; omega, by rw [MA_mem]; omega⟩) (Or.inr ⟨rfl, MA_CS⟩) (Or.inl y2) (Or.inr ⟨rfl, DS_MA⟩) (Or.inr ⟨by rw [MA_mem]; omega, by rw [MA_mem]; omega⟩) (Or.inr ⟨by rw [MA_mem]; omega, by rw [MA_mem]; omega⟩)), by show RE _ (F ++ []); rw [List.append_nil]; exact hR.sm y1 (by rw [MA_mem]; omega) (by rw [MA_mem]; omega)⟩
  · refine v_gets (v := .ref 1048752) X (dk D_Mi_useBuiltIn 0 rfl) (Or.inl Z_Mi_295) X.sf.2.2.2.2.2.1.1 ?_
    refine v_aload_n X (dk D_Mi_useBuiltIn 1 rfl) rfl ?_
    refine v_invVU (C := "RescanMill$BuiltIn") (x := ⟨"RescanMill$BuiltIn", "ordinal", "()I"⟩) (M := M_En_ordinal) (b := 1048576 + 3) (As := []) (st := [.ref 1048752]) X (c_ordB l q (i := 3) (by decide)) (dk D_Mi_useBuiltIn 2 rfl) G_Mi_300 same_B sel_B I_En_ordinal rfl K_En_ordinal (X.sf.1 3 (by decide)).1 rfl rfl (Nat.le_of_ble_eq_true rfl) (Nat.le_of_ble_eq_true rfl) (Nat.le_of_ble_eq_true rfl) (Nat.le_of_ble_eq_true rfl) (Nat.le_of_ble_eq_true rfl) ⟨by decide, by decide, by decide +kernel⟩ ?_
    rintro v w ⟨rfl, hw⟩
    rw [hw]
    show Vv _ _ _ _ _ _ _ _ _ _ _ _ _ _ _ [.int (nI 3), .ref 1048752] (0, 0, g)
    refine v_siald (v := .int 4) X (dk D_Mi_useBuiltIn 3 rfl) X.sf.2.2.2.2.2.1.2 (vp_in_nI (show 3 < 17 by decide) (by decide)) (by rw [nI_clamp (by decide)]; rfl) ?_
    refine v_tableIn (tgt := 110) X (dk D_Mi_useBuiltIn 4 rfl) (by decide) (by decide) rfl (by decide) ?_
    refine v_aload_n X (dk D_Mi_useBuiltIn 17 rfl) rfl ?_
    refine v_iconst (v := 0) X (dk D_Mi_useBuiltIn 18 rfl) (by decide) ?_
    refine v_invV (As := [.int 0]) (st := []) X (k_takeMeanings l q (all := false) hS hC hfb hP) (dk D_Mi_useBuiltIn 19 rfl) G_Mi_307 K_Mi_takeMeanings V_Mi_takeMeanings rfl rfl (hS.lt (by decide)) rfl rfl (Nat.le_of_ble_eq_true rfl) (Nat.le_of_ble_eq_true rfl) (Nat.le_of_ble_eq_true rfl) (Nat.le_of_ble_eq_true rfl) (Nat.le_of_ble_eq_true rfl) ?_
    rintro v w ⟨rfl, y1, y2⟩
    show Vv _ _ _ _ _ _ _ _ _ _ _ _ _ _ _ [.int _] (0, 0, w.2.2)
    exact v_iret X hlk hrt (dk D_Mi_useBuiltIn 20 rfl) ⟨rfl, y1.mono RN_MA, (hW.gen y1 MA_30 (by rw [MA_mem]; omega) (Or.inr ⟨rfl, by rw [MA_mem]; omega, by rw [MA_mem]; omega, by rw [MA_mem]; omega, by rw [MA_mem]; omega⟩) (Or.inr ⟨rfl, by rw [MA_mem]; omega, by rw [MA_mem]; omega, by rw [MA_mem]; omega, by rw [MA_mem]; omega⟩) (Or.inr ⟨rfl, MA_CS⟩) (Or.inl y2) (Or.inr ⟨rfl, DS_MA⟩) (Or.inr ⟨by rw [MA_mem]; omega, by rw [MA_mem]; omega⟩) (Or.inr ⟨by rw [MA_mem]; omega, by rw [MA_mem]; omega⟩)), by show RE _ (F ++ []); rw [List.append_nil]; exact hR.sm y1 (by rw [MA_mem]; omega) (by rw [MA_mem]; omega)⟩
  · refine v_gets (v := .ref 1048752) X (dk D_Mi_useBuiltIn 0 rfl) (Or.inl Z_Mi_295) X.sf.2.2.2.2.2.1.1 ?_
    refine v_aload_n X (dk D_Mi_useBuiltIn 1 rfl) rfl ?_
    refine v_invVU (C := "RescanMill$BuiltIn") (x := ⟨"RescanMill$BuiltIn", "ordinal", "()I"⟩) (M := M_En_ordinal) (b := 1048576 + 4) (As := []) (st := [.ref 1048752]) X (c_ordB l q (i := 4) (by decide)) (dk D_Mi_useBuiltIn 2 rfl) G_Mi_300 same_B sel_B I_En_ordinal rfl K_En_ordinal (X.sf.1 4 (by decide)).1 rfl rfl (Nat.le_of_ble_eq_true rfl) (Nat.le_of_ble_eq_true rfl) (Nat.le_of_ble_eq_true rfl) (Nat.le_of_ble_eq_true rfl) (Nat.le_of_ble_eq_true rfl) ⟨by decide, by decide, by decide +kernel⟩ ?_
    rintro v w ⟨rfl, hw⟩
    rw [hw]
    show Vv _ _ _ _ _ _ _ _ _ _ _ _ _ _ _ [.int (nI 4), .ref 1048752] (0, 0, g)
    refine v_siald (v := .int 5) X (dk D_Mi_useBuiltIn 3 rfl) X.sf.2.2.2.2.2.1.2 (vp_in_nI (show 4 < 17 by decide) (by decide)) (by rw [nI_clamp (by decide)]; rfl) ?_
    refine v_tableIn (tgt := 116) X (dk D_Mi_useBuiltIn 4 rfl) (by decide) (by decide) rfl (by decide) ?_
    refine v_aload_n X (dk D_Mi_useBuiltIn 21 rfl) rfl ?_
    refine v_invV (As := []) (st := []) X (k_chooseByMacro l q hS hC hfb hP hR) (dk D_Mi_useBuiltIn 22 rfl) G_Mi_310 K_Mi_chooseByMacro V_Mi_chooseByMacro rfl rfl (hS.lt (by decide)) rfl rfl (Nat.le_of_ble_eq_true rfl) (Nat.le_of_ble_eq_true rfl) (Nat.le_of_ble_eq_true rfl) (Nat.le_of_ble_eq_true rfl) (Nat.le_of_ble_eq_true rfl) ?_
    rintro v w ⟨rfl, y1, y2⟩
    show Vv _ _ _ _ _ _ _ _ _ _ _ _ _ _ _ [.int _] (0, 0, w.2.2)
    exact v_iret X hlk hrt (dk D_Mi_useBuiltIn 23 rfl) ⟨rfl, y1.mono (RN_of [5, 6] (by decide)), (hW.gen y1 (by decide) (by decide) (Or.inr ⟨rfl, by decide, by decide, by decide, by decide⟩) (Or.inr ⟨rfl, by decide, by decide, by decide, by decide⟩) (Or.inr ⟨rfl, by decide⟩) (Or.inr ⟨rfl, M25 [5, 6] (by decide)⟩) (Or.inr ⟨rfl, by decide⟩) (Or.inl ⟨_, y2⟩) (Or.inr ⟨by decide, by decide⟩)), y2⟩
  · refine v_gets (v := .ref 1048752) X (dk D_Mi_useBuiltIn 0 rfl) (Or.inl Z_Mi_295) X.sf.2.2.2.2.2.1.1 ?_
    refine v_aload_n X (dk D_Mi_useBuiltIn 1 rfl) rfl ?_
    refine v_invVU (C := "RescanMill$BuiltIn") (x := ⟨"RescanMill$BuiltIn", "ordinal", "()I"⟩) (M := M_En_ordinal) (b := 1048576 + 5) (As := []) (st := [.ref 1048752]) X (c_ordB l q (i := 5) (by decide)) (dk D_Mi_useBuiltIn 2 rfl) G_Mi_300 same_B sel_B I_En_ordinal rfl K_En_ordinal (X.sf.1 5 (by decide)).1 rfl rfl (Nat.le_of_ble_eq_true rfl) (Nat.le_of_ble_eq_true rfl) (Nat.le_of_ble_eq_true rfl) (Nat.le_of_ble_eq_true rfl) (Nat.le_of_ble_eq_true rfl) ⟨by decide, by decide, by decide +kernel⟩ ?_
    rintro v w ⟨rfl, hw⟩
    rw [hw]
    show Vv _ _ _ _ _ _ _ _ _ _ _ _ _ _ _ [.int (nI 5), .ref 1048752] (0, 0, g)
    refine v_siald (v := .int 6) X (dk D_Mi_useBuiltIn 3 rfl) X.sf.2.2.2.2.2.1.2 (vp_in_nI (show 5 < 17 by decide) (by decide)) (by rw [nI_clamp (by decide)]; rfl) ?_
    refine v_tableIn (tgt := 121) X (dk D_Mi_useBuiltIn 4 rfl) (by decide) (by decide) rfl (by decide) ?_
    refine v_aload_n X (dk D_Mi_useBuiltIn 24 rfl) rfl ?_
    refine v_invV (As := []) (st := []) X (k_chooseBySameness l q hS hC hfb hR) (dk D_Mi_useBuiltIn 25 rfl) G_Mi_313 K_Mi_chooseBySameness V_Mi_chooseBySameness rfl rfl (hS.lt (by decide)) rfl rfl (Nat.le_of_ble_eq_true rfl) (Nat.le_of_ble_eq_true rfl) (Nat.le_of_ble_eq_true rfl) (Nat.le_of_ble_eq_true rfl) (Nat.le_of_ble_eq_true rfl) ?_
    rintro v w ⟨rfl, y1, y2⟩
    show Vv _ _ _ _ _ _ _ _ _ _ _ _ _ _ _ [.int _] (0, 0, w.2.2)
    exact v_iret X hlk hrt (dk D_Mi_useBuiltIn 26 rfl) ⟨rfl, y1.mono (RN_of [5, 6] (by decide)), (hW.gen y1 (by decide) (by decide) (Or.inr ⟨rfl, by decide, by decide, by decide, by decide⟩) (Or.inr ⟨rfl, by decide, by decide, by decide, by decide⟩) (Or.inr ⟨rfl, by decide⟩) (Or.inr ⟨rfl, M25 [5, 6] (by decide)⟩) (Or.inr ⟨rfl, by decide⟩) (Or.inl ⟨_, y2⟩) (Or.inr ⟨by decide, by decide⟩)), y2⟩
  · refine v_gets (v := .ref 1048752) X (dk D_Mi_useBuiltIn 0 rfl) (Or.inl Z_Mi_295) X.sf.2.2.2.2.2.1.1 ?_
    refine v_aload_n X (dk D_Mi_useBuiltIn 1 rfl) rfl ?_
    refine v_invVU (C := "RescanMill$BuiltIn") (x := ⟨"RescanMill$BuiltIn", "ordinal", "()I"⟩) (M := M_En_ordinal) (b := 1048576 + 6) (As := []) (st := [.ref 1048752]) X (c_ordB l q (i := 6) (by decide)) (dk D_Mi_useBuiltIn 2 rfl) G_Mi_300 same_B sel_B I_En_ordinal rfl K_En_ordinal (X.sf.1 6 (by decide)).1 rfl rfl (Nat.le_of_ble_eq_true rfl) (Nat.le_of_ble_eq_true rfl) (Nat.le_of_ble_eq_true rfl) (Nat.le_of_ble_eq_true rfl) (Nat.le_of_ble_eq_true rfl) ⟨by decide, by decide, by decide +kernel⟩ ?_
    rintro v w ⟨rfl, hw⟩
    rw [hw]
    show Vv _ _ _ _ _ _ _ _ _ _ _ _ _ _ _ [.int (nI 6), .ref 1048752] (0, 0, g)
    refine v_siald (v := .int 7) X (dk D_Mi_useBuiltIn 3 rfl) X.sf.2.2.2.2.2.1.2 (vp_in_nI (show 6 < 17 by decide) (by decide)) (by rw [nI_clamp (by decide)]; rfl) ?_
    refine v_tableIn (tgt := 126) X (dk D_Mi_useBuiltIn 4 rfl) (by decide) (by decide) rfl (by decide) ?_
    refine v_aload_n X (dk D_Mi_useBuiltIn 27 rfl) rfl ?_
    refine v_getF X (dk D_Mi_useBuiltIn 28 rfl) F_Mi_58 rfl rfl (hS.lt (by decide)) (hS.2 0 7) ?_
    refine v_aload_n X (dk D_Mi_useBuiltIn 29 rfl) rfl ?_
    refine v_getF X (dk D_Mi_useBuiltIn 30 rfl) F_Mi_37 rfl rfl (hS.lt (by decide)) (hS.2 0 4) ?_
    refine v_getF X (dk D_Mi_useBuiltIn 31 rfl) F_Mi_219 rfl rfl (hS.lt (by decide)) (hS.2 17 0) ?_
    refine v_aload_n X (dk D_Mi_useBuiltIn 32 rfl) rfl ?_
    refine v_getF X (dk D_Mi_useBuiltIn 33 rfl) F_Mi_37 rfl rfl (hS.lt (by decide)) (hS.2 0 4) ?_
    refine v_iconst (v := nI 0) X (dk D_Mi_useBuiltIn 34 rfl) (by decide) ?_
    refine v_invV (As := [.int (nI 0)]) (st := [.ref 18, .ref 997]) X (k_start l q (i := 0) hS hC (by decide)) (dk D_Mi_useBuiltIn 35 rfl) G_Mi_283 K_Ca_start V_Ca_start rfl rfl (hS.lt (by decide)) rfl rfl (Nat.le_of_ble_eq_true rfl) (Nat.le_of_ble_eq_true rfl) (Nat.le_of_ble_eq_true rfl) (Nat.le_of_ble_eq_true rfl) (Nat.le_of_ble_eq_true rfl) ?_
    rintro v ws ⟨rfl, hws⟩
    rw [hws]
    show Vv _ _ _ _ _ _ _ _ _ _ _ _ _ _ _ [.int (nI (stA f r 0)), .ref 18, .ref 997] (0, 0, g)
    refine v_aload_n X (dk D_Mi_useBuiltIn 36 rfl) rfl ?_
    refine v_getF X (dk D_Mi_useBuiltIn 37 rfl) F_Mi_37 rfl rfl (hS.lt (by decide)) (hS.2 0 4) ?_
    refine v_iconst (v := nI 0) X (dk D_Mi_useBuiltIn 38 rfl) (by decide) ?_
    refine v_invV (As := [.int (nI 0)]) (st := [.int (nI (stA f r 0)), .ref 18, .ref 997]) X (k_length l q (i := 0) hS hC (by decide)) (dk D_Mi_useBuiltIn 39 rfl) G_Mi_286 K_Ca_length V_Ca_length rfl rfl (hS.lt (by decide)) rfl rfl (Nat.le_of_ble_eq_true rfl) (Nat.le_of_ble_eq_true rfl) (Nat.le_of_ble_eq_true rfl) (Nat.le_of_ble_eq_true rfl) (Nat.le_of_ble_eq_true rfl) ?_
    rintro v ws ⟨rfl, hws⟩
    rw [hws]
    show Vv _ _ _ _ _ _ _ _ _ _ _ _ _ _ _ [.int (nI (f.2.1.getD 0 []).length), .int (nI (stA f r 0)), .ref 18, .ref 997] (0, 0, g)
    refine v_aload_n X (dk D_Mi_useBuiltIn 40 rfl) rfl ?_
    refine v_getF X (dk D_Mi_useBuiltIn 41 rfl) F_Mi_24 rfl rfl (hS.lt (by decide)) (hS.2 0 2) ?_
    refine v_invV (As := [.ref 18, .int (nI (stA f r 0)), .int (nI (f.2.1.getD 0 []).length), .ref 5]) (st := []) X (k_evaluate l q (st := stA f r 0) (n := (f.2.1.getD 0 []).length) hS hC.1 (by decide) (by decide) (by decide) (ag_le 0) hR) (dk D_Mi_useBuiltIn 42 rfl) G_Mi_316 K_Ex_evaluate V_Ex_evaluate rfl rfl (hS.lt (by decide)) rfl rfl (Nat.le_of_ble_eq_true rfl) (Nat.le_of_ble_eq_true rfl) (Nat.le_of_ble_eq_true rfl) (Nat.le_of_ble_eq_true rfl) (Nat.le_of_ble_eq_true rfl) ?_
    rintro v w ⟨rfl, y1, y2⟩
    rw [hl_slice] at y2 ⊢
    show Vv _ _ _ _ _ _ _ _ _ _ _ _ _ _ _ [.int _] (0, 0, w.2.2)
    exact v_iret X hlk hrt (dk D_Mi_useBuiltIn 43 rfl) ⟨rfl, y1.mono (RN_of XR (by decide)), (hW.gen y1 (by decide) (by decide) (Or.inr ⟨rfl, by decide, by decide, by decide, by decide⟩) (Or.inr ⟨rfl, by decide, by decide, by decide, by decide⟩) (Or.inr ⟨rfl, by decide⟩) (Or.inr ⟨rfl, M25 XR (by decide)⟩) (Or.inr ⟨rfl, by decide⟩) (Or.inl ⟨_, y2⟩) (Or.inr ⟨by decide, by decide⟩)), y2⟩
  · refine v_gets (v := .ref 1048752) X (dk D_Mi_useBuiltIn 0 rfl) (Or.inl Z_Mi_295) X.sf.2.2.2.2.2.1.1 ?_
    refine v_aload_n X (dk D_Mi_useBuiltIn 1 rfl) rfl ?_
    refine v_invVU (C := "RescanMill$BuiltIn") (x := ⟨"RescanMill$BuiltIn", "ordinal", "()I"⟩) (M := M_En_ordinal) (b := 1048576 + 7) (As := []) (st := [.ref 1048752]) X (c_ordB l q (i := 7) (by decide)) (dk D_Mi_useBuiltIn 2 rfl) G_Mi_300 same_B sel_B I_En_ordinal rfl K_En_ordinal (X.sf.1 7 (by decide)).1 rfl rfl (Nat.le_of_ble_eq_true rfl) (Nat.le_of_ble_eq_true rfl) (Nat.le_of_ble_eq_true rfl) (Nat.le_of_ble_eq_true rfl) (Nat.le_of_ble_eq_true rfl) ⟨by decide, by decide, by decide +kernel⟩ ?_
    rintro v w ⟨rfl, hw⟩
    rw [hw]
    show Vv _ _ _ _ _ _ _ _ _ _ _ _ _ _ _ [.int (nI 7), .ref 1048752] (0, 0, g)
    refine v_siald (v := .int 8) X (dk D_Mi_useBuiltIn 3 rfl) X.sf.2.2.2.2.2.1.2 (vp_in_nI (show 7 < 17 by decide) (by decide)) (by rw [nI_clamp (by decide)]; rfl) ?_
    refine v_tableIn (tgt := 161) X (dk D_Mi_useBuiltIn 4 rfl) (by decide) (by decide) rfl (by decide) ?_
    refine v_aload_n X (dk D_Mi_useBuiltIn 44 rfl) rfl ?_
    refine v_iconst (v := 1) X (dk D_Mi_useBuiltIn 45 rfl) (by decide) ?_
    refine v_invV (As := [.int 1]) (st := []) X (k_addTo l q (s := 1) hS hC hfb hR) (dk D_Mi_useBuiltIn 46 rfl) G_Mi_320 K_Mi_addTo V_Mi_addTo rfl rfl (hS.lt (by decide)) rfl rfl (Nat.le_of_ble_eq_true rfl) (Nat.le_of_ble_eq_true rfl) (Nat.le_of_ble_eq_true rfl) (Nat.le_of_ble_eq_true rfl) (Nat.le_of_ble_eq_true rfl) ?_
    rintro v w ⟨rfl, y1, y2⟩
    show Vv _ _ _ _ _ _ _ _ _ _ _ _ _ _ _ [.int _] (0, 0, w.2.2)
    exact v_iret X hlk hrt (dk D_Mi_useBuiltIn 47 rfl) ⟨rfl, y1.mono (RN_of [5, 6] (by decide)), (hW.gen y1 (by decide) (by decide) (Or.inr ⟨rfl, by decide, by decide, by decide, by decide⟩) (Or.inr ⟨rfl, by decide, by decide, by decide, by decide⟩) (Or.inr ⟨rfl, by decide⟩) (Or.inr ⟨rfl, M25 [5, 6] (by decide)⟩) (Or.inr ⟨rfl, by decide⟩) (Or.inl ⟨_, y2⟩) (Or.inr ⟨by decide, by decide⟩)), y2⟩
  · refine v_gets (v := .ref 1048752) X (dk D_Mi_useBuiltIn 0 rfl) (Or.inl Z_Mi_295) X.sf.2.2.2.2.2.1.1 ?_
    refine v_aload_n X (dk D_Mi_useBuiltIn 1 rfl) rfl ?_
    refine v_invVU (C := "RescanMill$BuiltIn") (x := ⟨"RescanMill$BuiltIn", "ordinal", "()I"⟩) (M := M_En_ordinal) (b := 1048576 + 8) (As := []) (st := [.ref 1048752]) X (c_ordB l q (i := 8) (by decide)) (dk D_Mi_useBuiltIn 2 rfl) G_Mi_300 same_B sel_B I_En_ordinal rfl K_En_ordinal (X.sf.1 8 (by decide)).1 rfl rfl (Nat.le_of_ble_eq_true rfl) (Nat.le_of_ble_eq_true rfl) (Nat.le_of_ble_eq_true rfl) (Nat.le_of_ble_eq_true rfl) (Nat.le_of_ble_eq_true rfl) ⟨by decide, by decide, by decide +kernel⟩ ?_
    rintro v w ⟨rfl, hw⟩
    rw [hw]
    show Vv _ _ _ _ _ _ _ _ _ _ _ _ _ _ _ [.int (nI 8), .ref 1048752] (0, 0, g)
    refine v_siald (v := .int 9) X (dk D_Mi_useBuiltIn 3 rfl) X.sf.2.2.2.2.2.1.2 (vp_in_nI (show 8 < 17 by decide) (by decide)) (by rw [nI_clamp (by decide)]; rfl) ?_
    refine v_tableIn (tgt := 167) X (dk D_Mi_useBuiltIn 4 rfl) (by decide) (by decide) rfl (by decide) ?_
    refine v_aload_n X (dk D_Mi_useBuiltIn 48 rfl) rfl ?_
    refine v_iconst (v := -1) X (dk D_Mi_useBuiltIn 49 rfl) (by decide) ?_
    refine v_invV (As := [.int (-1)]) (st := []) X (k_addTo l q (s := (-1)) hS hC hfb hR) (dk D_Mi_useBuiltIn 50 rfl) G_Mi_320 K_Mi_addTo V_Mi_addTo rfl rfl (hS.lt (by decide)) rfl rfl (Nat.le_of_ble_eq_true rfl) (Nat.le_of_ble_eq_true rfl) (Nat.le_of_ble_eq_true rfl) (Nat.le_of_ble_eq_true rfl) (Nat.le_of_ble_eq_true rfl) ?_
    rintro v w ⟨rfl, y1, y2⟩
    show Vv _ _ _ _ _ _ _ _ _ _ _ _ _ _ _ [.int _] (0, 0, w.2.2)
    exact v_iret X hlk hrt (dk D_Mi_useBuiltIn 51 rfl) ⟨rfl, y1.mono (RN_of [5, 6] (by decide)), (hW.gen y1 (by decide) (by decide) (Or.inr ⟨rfl, by decide, by decide, by decide, by decide⟩) (Or.inr ⟨rfl, by decide, by decide, by decide, by decide⟩) (Or.inr ⟨rfl, by decide⟩) (Or.inr ⟨rfl, M25 [5, 6] (by decide)⟩) (Or.inr ⟨rfl, by decide⟩) (Or.inl ⟨_, y2⟩) (Or.inr ⟨by decide, by decide⟩)), y2⟩
  · refine v_gets (v := .ref 1048752) X (dk D_Mi_useBuiltIn 0 rfl) (Or.inl Z_Mi_295) X.sf.2.2.2.2.2.1.1 ?_
    refine v_aload_n X (dk D_Mi_useBuiltIn 1 rfl) rfl ?_
    refine v_invVU (C := "RescanMill$BuiltIn") (x := ⟨"RescanMill$BuiltIn", "ordinal", "()I"⟩) (M := M_En_ordinal) (b := 1048576 + 9) (As := []) (st := [.ref 1048752]) X (c_ordB l q (i := 9) (by decide)) (dk D_Mi_useBuiltIn 2 rfl) G_Mi_300 same_B sel_B I_En_ordinal rfl K_En_ordinal (X.sf.1 9 (by decide)).1 rfl rfl (Nat.le_of_ble_eq_true rfl) (Nat.le_of_ble_eq_true rfl) (Nat.le_of_ble_eq_true rfl) (Nat.le_of_ble_eq_true rfl) (Nat.le_of_ble_eq_true rfl) ⟨by decide, by decide, by decide +kernel⟩ ?_
    rintro v w ⟨rfl, hw⟩
    rw [hw]
    show Vv _ _ _ _ _ _ _ _ _ _ _ _ _ _ _ [.int (nI 9), .ref 1048752] (0, 0, g)
    refine v_siald (v := .int 10) X (dk D_Mi_useBuiltIn 3 rfl) X.sf.2.2.2.2.2.1.2 (vp_in_nI (show 9 < 17 by decide) (by decide)) (by rw [nI_clamp (by decide)]; rfl) ?_
    refine v_tableIn (tgt := 173) X (dk D_Mi_useBuiltIn 4 rfl) (by decide) (by decide) rfl (by decide) ?_
    refine v_aload_n X (dk D_Mi_useBuiltIn 52 rfl) rfl ?_
    refine v_getF X (dk D_Mi_useBuiltIn 53 rfl) F_Mi_24 rfl rfl (hS.lt (by decide)) (hS.2 0 2) ?_
    refine v_aload_n X (dk D_Mi_useBuiltIn 54 rfl) rfl ?_
    refine v_getF X (dk D_Mi_useBuiltIn 55 rfl) F_Mi_37 rfl rfl (hS.lt (by decide)) (hS.2 0 4) ?_
    refine v_iconst (v := nI 0) X (dk D_Mi_useBuiltIn 56 rfl) (by decide) ?_
    refine v_invV (As := [.int (nI 0)]) (st := [.ref 5]) X (k_length l q (i := 0) hS hC (by decide)) (dk D_Mi_useBuiltIn 57 rfl) G_Mi_286 K_Ca_length V_Ca_length rfl rfl (hS.lt (by decide)) rfl rfl (Nat.le_of_ble_eq_true rfl) (Nat.le_of_ble_eq_true rfl) (Nat.le_of_ble_eq_true rfl) (Nat.le_of_ble_eq_true rfl) (Nat.le_of_ble_eq_true rfl) ?_
    rintro v ws ⟨rfl, hws⟩
    rw [hws]
    show Vv _ _ _ _ _ _ _ _ _ _ _ _ _ _ _ [.int (nI (f.2.1.getD 0 []).length), .ref 5] (0, 0, g)
    refine v_invV (As := [.int (nI (f.2.1.getD 0 []).length)]) (st := []) X (kr_addNumber l q hR) (dk D_Mi_useBuiltIn 58 rfl) G_Mi_276 K_By_addNumber V_By_addNumber rfl rfl (hS.lt (by decide)) rfl rfl (Nat.le_of_ble_eq_true rfl) (Nat.le_of_ble_eq_true rfl) (Nat.le_of_ble_eq_true rfl) (Nat.le_of_ble_eq_true rfl) (Nat.le_of_ble_eq_true rfl) ?_
    rintro v w ⟨rfl, y1, y2⟩
    show Vv _ _ _ _ _ _ _ _ _ _ _ _ _ _ _ [] (0, 0, w.2.2)
    refine v_iconst (v := 0) X (dk D_Mi_useBuiltIn 59 rfl) (by decide) ?_
    exact v_iret X hlk hrt (dk D_Mi_useBuiltIn 60 rfl) ⟨rfl, y1.mono (RN_of [5, 6] (by decide)), (hW.gen y1 (by decide) (by decide) (Or.inr ⟨rfl, by decide, by decide, by decide, by decide⟩) (Or.inr ⟨rfl, by decide, by decide, by decide, by decide⟩) (Or.inr ⟨rfl, by decide⟩) (Or.inr ⟨rfl, M25 [5, 6] (by decide)⟩) (Or.inr ⟨rfl, by decide⟩) (Or.inl ⟨_, y2⟩) (Or.inr ⟨by decide, by decide⟩)), y2⟩
  · refine v_gets (v := .ref 1048752) X (dk D_Mi_useBuiltIn 0 rfl) (Or.inl Z_Mi_295) X.sf.2.2.2.2.2.1.1 ?_
    refine v_aload_n X (dk D_Mi_useBuiltIn 1 rfl) rfl ?_
    refine v_invVU (C := "RescanMill$BuiltIn") (x := ⟨"RescanMill$BuiltIn", "ordinal", "()I"⟩) (M := M_En_ordinal) (b := 1048576 + 10) (As := []) (st := [.ref 1048752]) X (c_ordB l q (i := 10) (by decide)) (dk D_Mi_useBuiltIn 2 rfl) G_Mi_300 same_B sel_B I_En_ordinal rfl K_En_ordinal (X.sf.1 10 (by decide)).1 rfl rfl (Nat.le_of_ble_eq_true rfl) (Nat.le_of_ble_eq_true rfl) (Nat.le_of_ble_eq_true rfl) (Nat.le_of_ble_eq_true rfl) (Nat.le_of_ble_eq_true rfl) ⟨by decide, by decide, by decide +kernel⟩ ?_
    rintro v w ⟨rfl, hw⟩
    rw [hw]
    show Vv _ _ _ _ _ _ _ _ _ _ _ _ _ _ _ [.int (nI 10), .ref 1048752] (0, 0, g)
    refine v_siald (v := .int 11) X (dk D_Mi_useBuiltIn 3 rfl) X.sf.2.2.2.2.2.1.2 (vp_in_nI (show 10 < 17 by decide) (by decide)) (by rw [nI_clamp (by decide)]; rfl) ?_
    refine v_tableIn (tgt := 190) X (dk D_Mi_useBuiltIn 4 rfl) (by decide) (by decide) rfl (by decide) ?_
    refine v_aload_n X (dk D_Mi_useBuiltIn 61 rfl) rfl ?_
    refine v_getF X (dk D_Mi_useBuiltIn 62 rfl) F_Mi_24 rfl rfl (hS.lt (by decide)) (hS.2 0 2) ?_
    refine v_aload_n X (dk D_Mi_useBuiltIn 63 rfl) rfl ?_
    refine v_aload_n X (dk D_Mi_useBuiltIn 64 rfl) rfl ?_
    refine v_getF X (dk D_Mi_useBuiltIn 65 rfl) F_Mi_37 rfl rfl (hS.lt (by decide)) (hS.2 0 4) ?_
    refine v_iconst (v := nI 0) X (dk D_Mi_useBuiltIn 66 rfl) (by decide) ?_
    refine v_invV (As := [.int (nI 0)]) (st := [.ref 0, .ref 5]) X (k_start l q (i := 0) hS hC (by decide)) (dk D_Mi_useBuiltIn 67 rfl) G_Mi_283 K_Ca_start V_Ca_start rfl rfl (hS.lt (by decide)) rfl rfl (Nat.le_of_ble_eq_true rfl) (Nat.le_of_ble_eq_true rfl) (Nat.le_of_ble_eq_true rfl) (Nat.le_of_ble_eq_true rfl) (Nat.le_of_ble_eq_true rfl) ?_
    rintro v ws ⟨rfl, hws⟩
    rw [hws]
    show Vv _ _ _ _ _ _ _ _ _ _ _ _ _ _ _ [.int (nI (stA f r 0)), .ref 0, .ref 5] (0, 0, g)
    refine v_aload_n X (dk D_Mi_useBuiltIn 68 rfl) rfl ?_
    refine v_getF X (dk D_Mi_useBuiltIn 69 rfl) F_Mi_37 rfl rfl (hS.lt (by decide)) (hS.2 0 4) ?_
    refine v_iconst (v := nI 0) X (dk D_Mi_useBuiltIn 70 rfl) (by decide) ?_
    refine v_invV (As := [.int (nI 0)]) (st := [.int (nI (stA f r 0)), .ref 0, .ref 5]) X (k_length l q (i := 0) hS hC (by decide)) (dk D_Mi_useBuiltIn 71 rfl) G_Mi_286 K_Ca_length V_Ca_length rfl rfl (hS.lt (by decide)) rfl rfl (Nat.le_of_ble_eq_true rfl) (Nat.le_of_ble_eq_true rfl) (Nat.le_of_ble_eq_true rfl) (Nat.le_of_ble_eq_true rfl) (Nat.le_of_ble_eq_true rfl) ?_
    rintro v ws ⟨rfl, hws⟩
    rw [hws]
    show Vv _ _ _ _ _ _ _ _ _ _ _ _ _ _ _ [.int (nI (f.2.1.getD 0 []).length), .int (nI (stA f r 0)), .ref 0, .ref 5] (0, 0, g)
    refine v_aload_n X (dk D_Mi_useBuiltIn 72 rfl) rfl ?_
    refine v_getF X (dk D_Mi_useBuiltIn 73 rfl) F_Mi_37 rfl rfl (hS.lt (by decide)) (hS.2 0 4) ?_
    refine v_iconst (v := nI 1) X (dk D_Mi_useBuiltIn 74 rfl) (by decide) ?_
    refine v_invV (As := [.int (nI 1)]) (st := [.int (nI (f.2.1.getD 0 []).length), .int (nI (stA f r 0)), .ref 0, .ref 5]) X (k_start l q (i := 1) hS hC (by decide)) (dk D_Mi_useBuiltIn 75 rfl) G_Mi_283 K_Ca_start V_Ca_start rfl rfl (hS.lt (by decide)) rfl rfl (Nat.le_of_ble_eq_true rfl) (Nat.le_of_ble_eq_true rfl) (Nat.le_of_ble_eq_true rfl) (Nat.le_of_ble_eq_true rfl) (Nat.le_of_ble_eq_true rfl) ?_
    rintro v ws ⟨rfl, hws⟩
    rw [hws]
    show Vv _ _ _ _ _ _ _ _ _ _ _ _ _ _ _ [.int (nI (stA f r 1)), .int (nI (f.2.1.getD 0 []).length), .int (nI (stA f r 0)), .ref 0, .ref 5] (0, 0, g)
    refine v_aload_n X (dk D_Mi_useBuiltIn 76 rfl) rfl ?_
    refine v_getF X (dk D_Mi_useBuiltIn 77 rfl) F_Mi_37 rfl rfl (hS.lt (by decide)) (hS.2 0 4) ?_
    refine v_iconst (v := nI 1) X (dk D_Mi_useBuiltIn 78 rfl) (by decide) ?_
    refine v_invV (As := [.int (nI 1)]) (st := [.int (nI (stA f r 1)), .int (nI (f.2.1.getD 0 []).length), .int (nI (stA f r 0)), .ref 0, .ref 5]) X (k_length l q (i := 1) hS hC (by decide)) (dk D_Mi_useBuiltIn 79 rfl) G_Mi_286 K_Ca_length V_Ca_length rfl rfl (hS.lt (by decide)) rfl rfl (Nat.le_of_ble_eq_true rfl) (Nat.le_of_ble_eq_true rfl) (Nat.le_of_ble_eq_true rfl) (Nat.le_of_ble_eq_true rfl) (Nat.le_of_ble_eq_true rfl) ?_
    rintro v ws ⟨rfl, hws⟩
    rw [hws]
    show Vv _ _ _ _ _ _ _ _ _ _ _ _ _ _ _ [.int (nI (f.2.1.getD 1 []).length), .int (nI (stA f r 1)), .int (nI (f.2.1.getD 0 []).length), .int (nI (stA f r 0)), .ref 0, .ref 5] (0, 0, g)
    refine v_invV (As := [.int (nI (stA f r 0)), .int (nI (f.2.1.getD 0 []).length), .int (nI (stA f r 1)), .int (nI (f.2.1.getD 1 []).length)]) (st := [.ref 5]) X (k_findPlace l q (st := stA f r 0) (n := (f.2.1.getD 0 []).length) (so := stA f r 1) (m := (f.2.1.getD 1 []).length) hS hC.1 hfb (ag_le 1) (ag_le 0) hix) (dk D_Mi_useBuiltIn 80 rfl) G_Mi_323 K_Mi_findPlace V_Mi_findPlace rfl rfl (hS.lt (by decide)) rfl rfl (Nat.le_of_ble_eq_true rfl) (Nat.le_of_ble_eq_true rfl) (Nat.le_of_ble_eq_true rfl) (Nat.le_of_ble_eq_true rfl) (Nat.le_of_ble_eq_true rfl) ?_
    rintro v w1 ⟨rfl, z1⟩
    rw [hl_slice, hl_slice]
    have S1 := hS.sm z1
    have R1 := hR.sm z1 (by decide) (by decide)
    show Vv _ _ _ _ _ _ _ _ _ _ _ _ _ _ _ [.int (plc (f.2.1.getD 0 []) (f.2.1.getD 1 [])), .ref 5] (0, 0, w1.2.2)
    refine v_invV (As := [.int (plc (f.2.1.getD 0 []) (f.2.1.getD 1 []))]) (st := []) X (kr_addNumber l q R1) (dk D_Mi_useBuiltIn 81 rfl) G_Mi_276 K_By_addNumber V_By_addNumber rfl rfl (S1.lt (by decide)) rfl rfl (Nat.le_of_ble_eq_true rfl) (Nat.le_of_ble_eq_true rfl) (Nat.le_of_ble_eq_true rfl) (Nat.le_of_ble_eq_true rfl) (Nat.le_of_ble_eq_true rfl) ?_
    rintro v w ⟨rfl, y1, y2⟩
    have zz := z1.tr y1 (U := [1002, 5, 6]) (by simp) (by simp)
    show Vv _ _ _ _ _ _ _ _ _ _ _ _ _ _ _ [] (0, 0, w.2.2)
    refine v_iconst (v := 0) X (dk D_Mi_useBuiltIn 82 rfl) (by decide) ?_
    exact v_iret X hlk hrt (dk D_Mi_useBuiltIn 83 rfl) ⟨rfl, zz.mono (RN_of [1002, 5, 6] (by decide)), (hW.gen zz (by decide) (by decide) (Or.inr ⟨rfl, by decide, by decide, by decide, by decide⟩) (Or.inr ⟨rfl, by decide, by decide, by decide, by decide⟩) (Or.inr ⟨rfl, by decide⟩) (Or.inr ⟨rfl, M25 [1002, 5, 6] (by decide)⟩) (Or.inr ⟨rfl, by decide⟩) (Or.inl ⟨_, y2⟩) (Or.inr ⟨by decide, by decide⟩)), y2⟩
  · refine v_gets (v := .ref 1048752) X (dk D_Mi_useBuiltIn 0 rfl) (Or.inl Z_Mi_295) X.sf.2.2.2.2.2.1.1 ?_
    refine v_aload_n X (dk D_Mi_useBuiltIn 1 rfl) rfl ?_
    refine v_invVU (C := "RescanMill$BuiltIn") (x := ⟨"RescanMill$BuiltIn", "ordinal", "()I"⟩) (M := M_En_ordinal) (b := 1048576 + 11) (As := []) (st := [.ref 1048752]) X (c_ordB l q (i := 11) (by decide)) (dk D_Mi_useBuiltIn 2 rfl) G_Mi_300 same_B sel_B I_En_ordinal rfl K_En_ordinal (X.sf.1 11 (by decide)).1 rfl rfl (Nat.le_of_ble_eq_true rfl) (Nat.le_of_ble_eq_true rfl) (Nat.le_of_ble_eq_true rfl) (Nat.le_of_ble_eq_true rfl) (Nat.le_of_ble_eq_true rfl) ⟨by decide, by decide, by decide +kernel⟩ ?_
    rintro v w ⟨rfl, hw⟩
    rw [hw]
    show Vv _ _ _ _ _ _ _ _ _ _ _ _ _ _ _ [.int (nI 11), .ref 1048752] (0, 0, g)
    refine v_siald (v := .int 12) X (dk D_Mi_useBuiltIn 3 rfl) X.sf.2.2.2.2.2.1.2 (vp_in_nI (show 11 < 17 by decide) (by decide)) (by rw [nI_clamp (by decide)]; rfl) ?_
    refine v_tableIn (tgt := 235) X (dk D_Mi_useBuiltIn 4 rfl) (by decide) (by decide) rfl (by decide) ?_
    refine v_aload_n X (dk D_Mi_useBuiltIn 84 rfl) rfl ?_
    refine v_invV (As := []) (st := []) X (k_cutOut l q hS hC hfb hR) (dk D_Mi_useBuiltIn 85 rfl) G_Mi_327 K_Mi_cutOut V_Mi_cutOut rfl rfl (hS.lt (by decide)) rfl rfl (Nat.le_of_ble_eq_true rfl) (Nat.le_of_ble_eq_true rfl) (Nat.le_of_ble_eq_true rfl) (Nat.le_of_ble_eq_true rfl) (Nat.le_of_ble_eq_true rfl) ?_
    rintro v w ⟨rfl, y1, y2⟩
    show Vv _ _ _ _ _ _ _ _ _ _ _ _ _ _ _ [.int _] (0, 0, w.2.2)
    exact v_iret X hlk hrt (dk D_Mi_useBuiltIn 86 rfl) ⟨rfl, y1.mono (RN_of [5, 6] (by decide)), (hW.gen y1 (by decide) (by decide) (Or.inr ⟨rfl, by decide, by decide, by decide, by decide⟩) (Or.inr ⟨rfl, by decide, by decide, by decide, by decide⟩) (Or.inr ⟨rfl, by decide⟩) (Or.inr ⟨rfl, M25 [5, 6] (by decide)⟩) (Or.inr ⟨rfl, by decide⟩) (Or.inl ⟨_, y2⟩) (Or.inr ⟨by decide, by decide⟩)), y2⟩
  · refine v_gets (v := .ref 1048752) X (dk D_Mi_useBuiltIn 0 rfl) (Or.inl Z_Mi_295) X.sf.2.2.2.2.2.1.1 ?_
    refine v_aload_n X (dk D_Mi_useBuiltIn 1 rfl) rfl ?_
    refine v_invVU (C := "RescanMill$BuiltIn") (x := ⟨"RescanMill$BuiltIn", "ordinal", "()I"⟩) (M := M_En_ordinal) (b := 1048576 + 12) (As := []) (st := [.ref 1048752]) X (c_ordB l q (i := 12) (by decide)) (dk D_Mi_useBuiltIn 2 rfl) G_Mi_300 same_B sel_B I_En_ordinal rfl K_En_ordinal (X.sf.1 12 (by decide)).1 rfl rfl (Nat.le_of_ble_eq_true rfl) (Nat.le_of_ble_eq_true rfl) (Nat.le_of_ble_eq_true rfl) (Nat.le_of_ble_eq_true rfl) (Nat.le_of_ble_eq_true rfl) ⟨by decide, by decide, by decide +kernel⟩ ?_
    rintro v w ⟨rfl, hw⟩
    rw [hw]
    show Vv _ _ _ _ _ _ _ _ _ _ _ _ _ _ _ [.int (nI 12), .ref 1048752] (0, 0, g)
    refine v_siald (v := .int 13) X (dk D_Mi_useBuiltIn 3 rfl) X.sf.2.2.2.2.2.1.2 (vp_in_nI (show 12 < 17 by decide) (by decide)) (by rw [nI_clamp (by decide)]; rfl) ?_
    refine v_tableIn (tgt := 240) X (dk D_Mi_useBuiltIn 4 rfl) (by decide) (by decide) rfl (by decide) ?_
    refine v_aload_n X (dk D_Mi_useBuiltIn 87 rfl) rfl ?_
    refine v_iconst (v := nI 1) X (dk D_Mi_useBuiltIn 88 rfl) (by decide) ?_
    refine v_iconst (v := 1) X (dk D_Mi_useBuiltIn 89 rfl) (by decide) ?_
    refine v_invV (As := [.int (nI 1), .int 1]) (st := []) X (k_addArguments l q (first := 1) (qd := true) hS hC hfb hR hO hQ (RB_byte hBB hO) (RB_byte hBB hQ) (by decide)) (dk D_Mi_useBuiltIn 90 rfl) G_Mi_279 K_Mi_addArguments V_Mi_addArguments rfl rfl (hS.lt (by decide)) rfl rfl (Nat.le_of_ble_eq_true rfl) (Nat.le_of_ble_eq_true rfl) (Nat.le_of_ble_eq_true rfl) (Nat.le_of_ble_eq_true rfl) (Nat.le_of_ble_eq_true rfl) ?_
    rintro v w ⟨rfl, y1, y2⟩
    show Vv _ _ _ _ _ _ _ _ _ _ _ _ _ _ _ [] (0, 0, w.2.2)
    refine v_iconst (v := 0) X (dk D_Mi_useBuiltIn 91 rfl) (by decide) ?_
    exact v_iret X hlk hrt (dk D_Mi_useBuiltIn 92 rfl) ⟨rfl, y1.mono (RN_of [5, 6] (by decide)), (hW.gen y1 (by decide) (by decide) (Or.inr ⟨rfl, by decide, by decide, by decide, by decide⟩) (Or.inr ⟨rfl, by decide, by decide, by decide, by decide⟩) (Or.inr ⟨rfl, by decide⟩) (Or.inr ⟨rfl, M25 [5, 6] (by decide)⟩) (Or.inr ⟨rfl, by decide⟩) (Or.inl ⟨_, y2⟩) (Or.inr ⟨by decide, by decide⟩)), y2⟩
  · refine v_gets (v := .ref 1048752) X (dk D_Mi_useBuiltIn 0 rfl) (Or.inl Z_Mi_295) X.sf.2.2.2.2.2.1.1 ?_
    refine v_aload_n X (dk D_Mi_useBuiltIn 1 rfl) rfl ?_
    refine v_invVU (C := "RescanMill$BuiltIn") (x := ⟨"RescanMill$BuiltIn", "ordinal", "()I"⟩) (M := M_En_ordinal) (b := 1048576 + 13) (As := []) (st := [.ref 1048752]) X (c_ordB l q (i := 13) (by decide)) (dk D_Mi_useBuiltIn 2 rfl) G_Mi_300 same_B sel_B I_En_ordinal rfl K_En_ordinal (X.sf.1 13 (by decide)).1 rfl rfl (Nat.le_of_ble_eq_true rfl) (Nat.le_of_ble_eq_true rfl) (Nat.le_of_ble_eq_true rfl) (Nat.le_of_ble_eq_true rfl) (Nat.le_of_ble_eq_true rfl) ⟨by decide, by decide, by decide +kernel⟩ ?_
    rintro v w ⟨rfl, hw⟩
    rw [hw]
    show Vv _ _ _ _ _ _ _ _ _ _ _ _ _ _ _ [.int (nI 13), .ref 1048752] (0, 0, g)
    refine v_siald (v := .int 14) X (dk D_Mi_useBuiltIn 3 rfl) X.sf.2.2.2.2.2.1.2 (vp_in_nI (show 13 < 17 by decide) (by decide)) (by rw [nI_clamp (by decide)]; rfl) ?_
    refine v_tableIn (tgt := 248) X (dk D_Mi_useBuiltIn 4 rfl) (by decide) (by decide) rfl (by decide) ?_
    refine v_aload_n X (dk D_Mi_useBuiltIn 93 rfl) rfl ?_
    refine v_getF X (dk D_Mi_useBuiltIn 94 rfl) F_Mi_30 rfl rfl (hS.lt (by decide)) (hS.2 0 3) ?_
    refine v_invV (As := []) (st := []) X (k_dropLine l q hS hI) (dk D_Mi_useBuiltIn 95 rfl) G_Mi_330 K_In_dropLine V_In_dropLine rfl rfl (hS.lt (by decide)) rfl rfl (Nat.le_of_ble_eq_true rfl) (Nat.le_of_ble_eq_true rfl) (Nat.le_of_ble_eq_true rfl) (Nat.le_of_ble_eq_true rfl) (Nat.le_of_ble_eq_true rfl) ?_
    rintro v w ⟨rfl, y1, y2, y3⟩
    show Vv _ _ _ _ _ _ _ _ _ _ _ _ _ _ _ [.int _] (0, 0, w.2.2)
    exact v_iret X hlk hrt (dk D_Mi_useBuiltIn 96 rfl) ⟨rfl, y1.mono (RN_of [7] (by decide)), (hW.gen y1 (by decide) (by decide) (Or.inl y2) (Or.inr ⟨rfl, by decide, by decide, by decide, by decide⟩) (Or.inr ⟨rfl, by decide⟩) (Or.inr ⟨rfl, M25 [7] (by decide)⟩) (Or.inr ⟨rfl, by decide⟩) (Or.inr ⟨by decide, by decide⟩) (Or.inr ⟨by decide, by decide⟩)), by show RE _ (F ++ []); rw [List.append_nil]; exact hR.sm y1 (by decide) (by decide)⟩
  · refine v_gets (v := .ref 1048752) X (dk D_Mi_useBuiltIn 0 rfl) (Or.inl Z_Mi_295) X.sf.2.2.2.2.2.1.1 ?_
    refine v_aload_n X (dk D_Mi_useBuiltIn 1 rfl) rfl ?_
    refine v_invVU (C := "RescanMill$BuiltIn") (x := ⟨"RescanMill$BuiltIn", "ordinal", "()I"⟩) (M := M_En_ordinal) (b := 1048576 + 14) (As := []) (st := [.ref 1048752]) X (c_ordB l q (i := 14) (by decide)) (dk D_Mi_useBuiltIn 2 rfl) G_Mi_300 same_B sel_B I_En_ordinal rfl K_En_ordinal (X.sf.1 14 (by decide)).1 rfl rfl (Nat.le_of_ble_eq_true rfl) (Nat.le_of_ble_eq_true rfl) (Nat.le_of_ble_eq_true rfl) (Nat.le_of_ble_eq_true rfl) (Nat.le_of_ble_eq_true rfl) ⟨by decide, by decide, by decide +kernel⟩ ?_
    rintro v w ⟨rfl, hw⟩
    rw [hw]
    show Vv _ _ _ _ _ _ _ _ _ _ _ _ _ _ _ [.int (nI 14), .ref 1048752] (0, 0, g)
    refine v_siald (v := .int 15) X (dk D_Mi_useBuiltIn 3 rfl) X.sf.2.2.2.2.2.1.2 (vp_in_nI (show 14 < 17 by decide) (by decide)) (by rw [nI_clamp (by decide)]; rfl) ?_
    refine v_tableIn (tgt := 256) X (dk D_Mi_useBuiltIn 4 rfl) (by decide) (by decide) rfl (by decide) ?_
    refine v_aload_n X (dk D_Mi_useBuiltIn 97 rfl) rfl ?_
    refine v_invV (As := []) (st := []) X (k_divert l q hS hC hD) (dk D_Mi_useBuiltIn 98 rfl) G_Mi_333 K_Mi_divert V_Mi_divert rfl rfl (hS.lt (by decide)) rfl rfl (Nat.le_of_ble_eq_true rfl) (Nat.le_of_ble_eq_true rfl) (Nat.le_of_ble_eq_true rfl) (Nat.le_of_ble_eq_true rfl) (Nat.le_of_ble_eq_true rfl) ?_
    rintro v w ⟨rfl, y1, y2⟩
    show Vv _ _ _ _ _ _ _ _ _ _ _ _ _ _ _ [.int _] (0, 0, w.2.2)
    exact v_iret X hlk hrt (dk D_Mi_useBuiltIn 99 rfl) ⟨rfl, y1.mono (RN_of DS (by decide)), (hW.gen y1 (by decide) (by decide) (Or.inr ⟨rfl, by decide, by decide, by decide, by decide⟩) (Or.inr ⟨rfl, by decide, by decide, by decide, by decide⟩) (Or.inr ⟨rfl, by decide⟩) (Or.inr ⟨rfl, M25 DS (by decide)⟩) (Or.inl y2) (Or.inr ⟨by decide, by decide⟩) (Or.inr ⟨by decide, by decide⟩)), by show RE _ (F ++ []); rw [List.append_nil]; exact hR.sm y1 (by decide) (by decide)⟩
  · refine v_gets (v := .ref 1048752) X (dk D_Mi_useBuiltIn 0 rfl) (Or.inl Z_Mi_295) X.sf.2.2.2.2.2.1.1 ?_
    refine v_aload_n X (dk D_Mi_useBuiltIn 1 rfl) rfl ?_
    refine v_invVU (C := "RescanMill$BuiltIn") (x := ⟨"RescanMill$BuiltIn", "ordinal", "()I"⟩) (M := M_En_ordinal) (b := 1048576 + 15) (As := []) (st := [.ref 1048752]) X (c_ordB l q (i := 15) (by decide)) (dk D_Mi_useBuiltIn 2 rfl) G_Mi_300 same_B sel_B I_En_ordinal rfl K_En_ordinal (X.sf.1 15 (by decide)).1 rfl rfl (Nat.le_of_ble_eq_true rfl) (Nat.le_of_ble_eq_true rfl) (Nat.le_of_ble_eq_true rfl) (Nat.le_of_ble_eq_true rfl) (Nat.le_of_ble_eq_true rfl) ⟨by decide, by decide, by decide +kernel⟩ ?_
    rintro v w ⟨rfl, hw⟩
    rw [hw]
    show Vv _ _ _ _ _ _ _ _ _ _ _ _ _ _ _ [.int (nI 15), .ref 1048752] (0, 0, g)
    refine v_siald (v := .int 16) X (dk D_Mi_useBuiltIn 3 rfl) X.sf.2.2.2.2.2.1.2 (vp_in_nI (show 15 < 17 by decide) (by decide)) (by rw [nI_clamp (by decide)]; rfl) ?_
    refine v_tableIn (tgt := 261) X (dk D_Mi_useBuiltIn 4 rfl) (by decide) (by decide) rfl (by decide) ?_
    refine v_aload_n X (dk D_Mi_useBuiltIn 100 rfl) rfl ?_
    refine v_invV (As := []) (st := []) X (k_undivert l q hS hC hDR hD) (dk D_Mi_useBuiltIn 101 rfl) G_Mi_336 K_Mi_undivert V_Mi_undivert rfl rfl (hS.lt (by decide)) rfl rfl (Nat.le_of_ble_eq_true rfl) (Nat.le_of_ble_eq_true rfl) (Nat.le_of_ble_eq_true rfl) (Nat.le_of_ble_eq_true rfl) (Nat.le_of_ble_eq_true rfl) ?_
    rintro v w ⟨rfl, y1, y2⟩
    show Vv _ _ _ _ _ _ _ _ _ _ _ _ _ _ _ [.int _] (0, 0, w.2.2)
    exact v_iret X hlk hrt (dk D_Mi_useBuiltIn 102 rfl) ⟨rfl, y1.mono (RN_of DS (by decide)), (hW.gen y1 (by decide) (by decide) (Or.inr ⟨rfl, by decide, by decide, by decide, by decide⟩) (Or.inr ⟨rfl, by decide, by decide, by decide, by decide⟩) (Or.inr ⟨rfl, by decide⟩) (Or.inr ⟨rfl, M25 DS (by decide)⟩) (Or.inl y2) (Or.inr ⟨by decide, by decide⟩) (Or.inr ⟨by decide, by decide⟩)), by show RE _ (F ++ []); rw [List.append_nil]; exact hR.sm y1 (by decide) (by decide)⟩
  · refine v_gets (v := .ref 1048752) X (dk D_Mi_useBuiltIn 0 rfl) (Or.inl Z_Mi_295) X.sf.2.2.2.2.2.1.1 ?_
    refine v_aload_n X (dk D_Mi_useBuiltIn 1 rfl) rfl ?_
    refine v_invVU (C := "RescanMill$BuiltIn") (x := ⟨"RescanMill$BuiltIn", "ordinal", "()I"⟩) (M := M_En_ordinal) (b := 1048576 + 16) (As := []) (st := [.ref 1048752]) X (c_ordB l q (i := 16) (by decide)) (dk D_Mi_useBuiltIn 2 rfl) G_Mi_300 same_B sel_B I_En_ordinal rfl K_En_ordinal (X.sf.1 16 (by decide)).1 rfl rfl (Nat.le_of_ble_eq_true rfl) (Nat.le_of_ble_eq_true rfl) (Nat.le_of_ble_eq_true rfl) (Nat.le_of_ble_eq_true rfl) (Nat.le_of_ble_eq_true rfl) ⟨by decide, by decide, by decide +kernel⟩ ?_
    rintro v w ⟨rfl, hw⟩
    rw [hw]
    show Vv _ _ _ _ _ _ _ _ _ _ _ _ _ _ _ [.int (nI 16), .ref 1048752] (0, 0, g)
    refine v_siald (v := .int 17) X (dk D_Mi_useBuiltIn 3 rfl) X.sf.2.2.2.2.2.1.2 (vp_in_nI (show 16 < 17 by decide) (by decide)) (by rw [nI_clamp (by decide)]; rfl) ?_
    refine v_tableIn (tgt := 266) X (dk D_Mi_useBuiltIn 4 rfl) (by decide) (by decide) rfl (by decide) ?_
    refine v_aload_n X (dk D_Mi_useBuiltIn 103 rfl) rfl ?_
    refine v_invV (As := []) (st := []) X (k_changeQuotes l q hS hC hO hQ) (dk D_Mi_useBuiltIn 104 rfl) G_Mi_339 K_Mi_changeQuotes V_Mi_changeQuotes rfl rfl (hS.lt (by decide)) rfl rfl (Nat.le_of_ble_eq_true rfl) (Nat.le_of_ble_eq_true rfl) (Nat.le_of_ble_eq_true rfl) (Nat.le_of_ble_eq_true rfl) (Nat.le_of_ble_eq_true rfl) ?_
    rintro v w ⟨rfl, y1, oo2, oc2, y2, y3⟩
    show Vv _ _ _ _ _ _ _ _ _ _ _ _ _ _ _ [.int _] (0, 0, w.2.2)
    exact v_iret X hlk hrt (dk D_Mi_useBuiltIn 105 rfl) ⟨rfl, y1.mono (RN_of [8, 9, 10, 11] (by decide)), (hW.gen y1 (by decide) (by decide) (Or.inr ⟨rfl, by decide, by decide, by decide, by decide⟩) (Or.inl ⟨⟨_, y2⟩, _, y3⟩) (Or.inr ⟨rfl, by decide⟩) (Or.inr ⟨rfl, M25 [8, 9, 10, 11] (by decide)⟩) (Or.inr ⟨rfl, by decide⟩) (Or.inr ⟨by decide, by decide⟩) (Or.inr ⟨by decide, by decide⟩)), by show RE _ (F ++ []); rw [List.append_nil]; exact hR.sm y1 (by decide) (by decide)⟩
