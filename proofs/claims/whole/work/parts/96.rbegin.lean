/-! the reference: the built-in macros -/
def bM : Nat → List Me
  | 0 => []
  | i + 1 => bM i ++ [(sx_B.getD i [], some (1048576 + i), [])]
theorem bM_len : ∀ i, (bM i).length = i
  | 0 => rfl
  | i + 1 => by rw [bM, List.length_append, bM_len]; rfl
theorem bM_T : ∀ i, i ≤ 17 → (mT (bM i)).length + 12 ≤ 128 := by decide +kernel
theorem bM_cD : ∀ i, cD (bM i) = 0 ∧ cB (bM i) = 0
  | 0 => ⟨rfl, rfl⟩
  | i + 1 => by rw [bM, cD_app, cB_app, (bM_cD i).1, (bM_cD i).2]; exact ⟨rfl, rfl⟩
theorem bM_ok : ∀ i, i ≤ 17 → okM (bM i)
  | 0, _ => fun e he => absurd he List.not_mem_nil
  | i + 1, h => fun e he c hc => by
    rcases List.mem_append.mp he with he | he
    · exact bM_ok i (by omega) e he c hc
    · rw [List.mem_singleton.mp he] at hc
      cases hc
      exact ⟨i, by omega, rfl⟩
set_option maxHeartbeats 4000000 in
set_option maxRecDepth 100000 in
theorem r_nameOf (l : Launch) (q : ev_T) {i : Nat} {g : mu_T} (hi : i < 17) : Ctr l q M_Rf_nameOf 0 [.int (nI (i + 1))] (0, 0, g) (fun v w => v = some (.ref (1048640 + i)) ∧ w.2.2 = g) := by

  refine Ctr.mk (lb := [some (.int (nI (i + 1)))]) (by decide +kernel) (Nat.le_of_ble_eq_true rfl) rfl rfl ?_
  intro pp ee ss mm aa bb mt cd X hrt hlk hnm
  rcases (show i = 0 ∨ i = 1 ∨ i = 2 ∨ i = 3 ∨ i = 4 ∨ i = 5 ∨ i = 6 ∨ i = 7 ∨ i = 8 ∨ i = 9 ∨ i = 10 ∨ i = 11 ∨ i = 12 ∨ i = 13 ∨ i = 14 ∨ i = 15 ∨ i = 16 by omega) with rfl | rfl | rfl | rfl | rfl | rfl | rfl | rfl | rfl | rfl | rfl | rfl | rfl | rfl | rfl | rfl | rfl
  · refine v_iload_n X (dk D_Rf_nameOf 0 rfl) rfl ?_
    refine v_tableIn (tgt := 80) X (dk D_Rf_nameOf 1 rfl) (by decide) (by decide) rfl (by decide) ?_
    refine v_ldcS (a := 1048640 + 0) X (dk D_Rf_nameOf 2 rfl) (X.sf.2.2.2.2.2.2.2.2 0 (by decide)) ?_
    exact v_aret (r := some (1048640 + 0)) X hlk hrt (Or.inl ⟨_, rfl⟩) (dk D_Rf_nameOf 3 rfl) ⟨rfl, rfl⟩
  · refine v_iload_n X (dk D_Rf_nameOf 0 rfl) rfl ?_
    refine v_tableIn (tgt := 83) X (dk D_Rf_nameOf 1 rfl) (by decide) (by decide) rfl (by decide) ?_
    refine v_ldcS (a := 1048640 + 1) X (dk D_Rf_nameOf 4 rfl) (X.sf.2.2.2.2.2.2.2.2 1 (by decide)) ?_
    exact v_aret (r := some (1048640 + 1)) X hlk hrt (Or.inl ⟨_, rfl⟩) (dk D_Rf_nameOf 5 rfl) ⟨rfl, rfl⟩
  · refine v_iload_n X (dk D_Rf_nameOf 0 rfl) rfl ?_
    refine v_tableIn (tgt := 86) X (dk D_Rf_nameOf 1 rfl) (by decide) (by decide) rfl (by decide) ?_
    refine v_ldcS (a := 1048640 + 2) X (dk D_Rf_nameOf 6 rfl) (X.sf.2.2.2.2.2.2.2.2 2 (by decide)) ?_
    exact v_aret (r := some (1048640 + 2)) X hlk hrt (Or.inl ⟨_, rfl⟩) (dk D_Rf_nameOf 7 rfl) ⟨rfl, rfl⟩
  · refine v_iload_n X (dk D_Rf_nameOf 0 rfl) rfl ?_
    refine v_tableIn (tgt := 89) X (dk D_Rf_nameOf 1 rfl) (by decide) (by decide) rfl (by decide) ?_
    refine v_ldcS (a := 1048640 + 3) X (dk D_Rf_nameOf 8 rfl) (X.sf.2.2.2.2.2.2.2.2 3 (by decide)) ?_
    exact v_aret (r := some (1048640 + 3)) X hlk hrt (Or.inl ⟨_, rfl⟩) (dk D_Rf_nameOf 9 rfl) ⟨rfl, rfl⟩
  · refine v_iload_n X (dk D_Rf_nameOf 0 rfl) rfl ?_
    refine v_tableIn (tgt := 92) X (dk D_Rf_nameOf 1 rfl) (by decide) (by decide) rfl (by decide) ?_
    refine v_ldcS (a := 1048640 + 4) X (dk D_Rf_nameOf 10 rfl) (X.sf.2.2.2.2.2.2.2.2 4 (by decide)) ?_
    exact v_aret (r := some (1048640 + 4)) X hlk hrt (Or.inl ⟨_, rfl⟩) (dk D_Rf_nameOf 11 rfl) ⟨rfl, rfl⟩
  · refine v_iload_n X (dk D_Rf_nameOf 0 rfl) rfl ?_
    refine v_tableIn (tgt := 95) X (dk D_Rf_nameOf 1 rfl) (by decide) (by decide) rfl (by decide) ?_
    refine v_ldcS (a := 1048640 + 5) X (dk D_Rf_nameOf 12 rfl) (X.sf.2.2.2.2.2.2.2.2 5 (by decide)) ?_
    exact v_aret (r := some (1048640 + 5)) X hlk hrt (Or.inl ⟨_, rfl⟩) (dk D_Rf_nameOf 13 rfl) ⟨rfl, rfl⟩
  · refine v_iload_n X (dk D_Rf_nameOf 0 rfl) rfl ?_
    refine v_tableIn (tgt := 98) X (dk D_Rf_nameOf 1 rfl) (by decide) (by decide) rfl (by decide) ?_
    refine v_ldcS (a := 1048640 + 6) X (dk D_Rf_nameOf 14 rfl) (X.sf.2.2.2.2.2.2.2.2 6 (by decide)) ?_
    exact v_aret (r := some (1048640 + 6)) X hlk hrt (Or.inl ⟨_, rfl⟩) (dk D_Rf_nameOf 15 rfl) ⟨rfl, rfl⟩
  · refine v_iload_n X (dk D_Rf_nameOf 0 rfl) rfl ?_
    refine v_tableIn (tgt := 101) X (dk D_Rf_nameOf 1 rfl) (by decide) (by decide) rfl (by decide) ?_
    refine v_ldcS (a := 1048640 + 7) X (dk D_Rf_nameOf 16 rfl) (X.sf.2.2.2.2.2.2.2.2 7 (by decide)) ?_
    exact v_aret (r := some (1048640 + 7)) X hlk hrt (Or.inl ⟨_, rfl⟩) (dk D_Rf_nameOf 17 rfl) ⟨rfl, rfl⟩
  · refine v_iload_n X (dk D_Rf_nameOf 0 rfl) rfl ?_
    refine v_tableIn (tgt := 104) X (dk D_Rf_nameOf 1 rfl) (by decide) (by decide) rfl (by decide) ?_
    refine v_ldcS (a := 1048640 + 8) X (dk D_Rf_nameOf 18 rfl) (X.sf.2.2.2.2.2.2.2.2 8 (by decide)) ?_
    exact v_aret (r := some (1048640 + 8)) X hlk hrt (Or.inl ⟨_, rfl⟩) (dk D_Rf_nameOf 19 rfl) ⟨rfl, rfl⟩
  · refine v_iload_n X (dk D_Rf_nameOf 0 rfl) rfl ?_
    refine v_tableIn (tgt := 107) X (dk D_Rf_nameOf 1 rfl) (by decide) (by decide) rfl (by decide) ?_
    refine v_ldcS (a := 1048640 + 9) X (dk D_Rf_nameOf 20 rfl) (X.sf.2.2.2.2.2.2.2.2 9 (by decide)) ?_
    exact v_aret (r := some (1048640 + 9)) X hlk hrt (Or.inl ⟨_, rfl⟩) (dk D_Rf_nameOf 21 rfl) ⟨rfl, rfl⟩
  · refine v_iload_n X (dk D_Rf_nameOf 0 rfl) rfl ?_
    refine v_tableIn (tgt := 110) X (dk D_Rf_nameOf 1 rfl) (by decide) (by decide) rfl (by decide) ?_
    refine v_ldcS (a := 1048640 + 10) X (dk D_Rf_nameOf 22 rfl) (X.sf.2.2.2.2.2.2.2.2 10 (by decide)) ?_
    exact v_aret (r := some (1048640 + 10)) X hlk hrt (Or.inl ⟨_, rfl⟩) (dk D_Rf_nameOf 23 rfl) ⟨rfl, rfl⟩
  · refine v_iload_n X (dk D_Rf_nameOf 0 rfl) rfl ?_
    refine v_tableIn (tgt := 113) X (dk D_Rf_nameOf 1 rfl) (by decide) (by decide) rfl (by decide) ?_
    refine v_ldcS (a := 1048640 + 11) X (dk D_Rf_nameOf 24 rfl) (X.sf.2.2.2.2.2.2.2.2 11 (by decide)) ?_
    exact v_aret (r := some (1048640 + 11)) X hlk hrt (Or.inl ⟨_, rfl⟩) (dk D_Rf_nameOf 25 rfl) ⟨rfl, rfl⟩
  · refine v_iload_n X (dk D_Rf_nameOf 0 rfl) rfl ?_
    refine v_tableIn (tgt := 116) X (dk D_Rf_nameOf 1 rfl) (by decide) (by decide) rfl (by decide) ?_
    refine v_ldcS (a := 1048640 + 12) X (dk D_Rf_nameOf 26 rfl) (X.sf.2.2.2.2.2.2.2.2 12 (by decide)) ?_
    exact v_aret (r := some (1048640 + 12)) X hlk hrt (Or.inl ⟨_, rfl⟩) (dk D_Rf_nameOf 27 rfl) ⟨rfl, rfl⟩
  · refine v_iload_n X (dk D_Rf_nameOf 0 rfl) rfl ?_
    refine v_tableIn (tgt := 119) X (dk D_Rf_nameOf 1 rfl) (by decide) (by decide) rfl (by decide) ?_
    refine v_ldcS (a := 1048640 + 13) X (dk D_Rf_nameOf 28 rfl) (X.sf.2.2.2.2.2.2.2.2 13 (by decide)) ?_
    exact v_aret (r := some (1048640 + 13)) X hlk hrt (Or.inl ⟨_, rfl⟩) (dk D_Rf_nameOf 29 rfl) ⟨rfl, rfl⟩
  · refine v_iload_n X (dk D_Rf_nameOf 0 rfl) rfl ?_
    refine v_tableIn (tgt := 122) X (dk D_Rf_nameOf 1 rfl) (by decide) (by decide) rfl (by decide) ?_
    refine v_ldcS (a := 1048640 + 14) X (dk D_Rf_nameOf 30 rfl) (X.sf.2.2.2.2.2.2.2.2 14 (by decide)) ?_
    exact v_aret (r := some (1048640 + 14)) X hlk hrt (Or.inl ⟨_, rfl⟩) (dk D_Rf_nameOf 31 rfl) ⟨rfl, rfl⟩
  · refine v_iload_n X (dk D_Rf_nameOf 0 rfl) rfl ?_
    refine v_tableIn (tgt := 125) X (dk D_Rf_nameOf 1 rfl) (by decide) (by decide) rfl (by decide) ?_
    refine v_ldcS (a := 1048640 + 15) X (dk D_Rf_nameOf 32 rfl) (X.sf.2.2.2.2.2.2.2.2 15 (by decide)) ?_
    exact v_aret (r := some (1048640 + 15)) X hlk hrt (Or.inl ⟨_, rfl⟩) (dk D_Rf_nameOf 33 rfl) ⟨rfl, rfl⟩
  · refine v_iload_n X (dk D_Rf_nameOf 0 rfl) rfl ?_
    refine v_tableOut (tgt := 128) X (dk D_Rf_nameOf 1 rfl) (by decide) (by decide) ?_
    refine v_ldcS (a := 1048640 + 16) X (dk D_Rf_nameOf 34 rfl) (X.sf.2.2.2.2.2.2.2.2 16 (by decide)) ?_
    exact v_aret (r := some (1048640 + 16)) X hlk hrt (Or.inl ⟨_, rfl⟩) (dk D_Rf_nameOf 35 rfl) ⟨rfl, rfl⟩
set_option maxHeartbeats 4000000 in
set_option maxRecDepth 100000 in
theorem r_beginMeanings (l : Launch) (q : ev_T) {g : mu_T} (hS : Shp g) : Ctr l q M_Rf_beginMeanings 4 [.ref 1003] (0, 0, g) (fun v w => v = none ∧ rs g w.2.2 [21, 27, 28, 29] [1011, 1012, 1013, 1014, 1015] ∧ RM w.2.2 (bM 17)) := by

  refine Ctr.mk (lb := [some (.ref 1003), none, none, none]) (by decide +kernel) (Nat.le_of_ble_eq_true rfl) rfl rfl ?_
  intro pp ee ss mm aa bb mt cd X hrt hlk hnm
  have loop : ∀ (d i : Nat) (u : mu_T), i + d = 17 → rs g u [21, 27, 28, 29] [1011, 1012, 1013, 1014, 1015] → RM u (bM i) → Vv pp l ee (rmT 4 0 0) ss mm aa bb mt cd 4 q (MQ bb (Qw q (fun v w => v = none ∧ rs g w.2.2 [21, 27, 28, 29] [1011, 1012, 1013, 1014, 1015] ∧ RM w.2.2 (bM 17))) aa ss 0 0 (fun a => q.1 ≤ a)) 22 [some (.ref 1003), some (.int (nI (i + 1))), none, none] [] (0, 0, u) := by
    intro d
    induction d with
    | zero =>
      intro i u hid hs hR
      have hSu := hs.S hS
      refine v_iload_n X (dk D_Rf_beginMeanings 14 rfl) rfl ?_
      refine v_bipush (v := 17) X (dk D_Rf_beginMeanings 15 rfl) (by decide) ?_
      refine v_icmp_gt (tgt := 136) X (dk D_Rf_beginMeanings 16 rfl) (by decide) (fun _ => ?_) (fun c25 => absurd (nI_lt (a := 17) (b := i + 1) (by omega) (by omega)) c25)
      exact v_vret X hlk hrt (dk D_Rf_beginMeanings 77 rfl) ⟨rfl, hs, by rw [show (17 : Nat) = i by omega]; exact hR⟩
    | succ d ih =>
      intro i u hid hs hR
      have hSu := hs.S hS
      have hT := bM_T i (by omega)
      have hT1 : (mT (bM (i + 1))).length = (mT (bM i)).length + sxl i := by rw [bM, mT_app, List.length_append, show mT [((sx_B.getD i [], some (1048576 + i), []) : Me)] = (sx_B.getD i [] ++ []) ++ [] from rfl, List.append_nil, List.append_nil]; rfl
      have hsl := sxl_lt i (by omega)
      have z4 : rs u (xI (xI (xI (xI u 1011 (bM i).length (nI (mT (bM i)).length)) 1012 (bM i).length (nI (sxl i))) 1013 (bM i).length (nI 0)) 1014 (bM i).length (nI (i + 1))) [] [1011, 1012, 1013, 1014] := ((((rs.rf u _ _).rI (by decide) (by decide)).rI (by decide) (by decide)).rI (by decide) (by decide)).rI (by decide) (by decide)
      have hSG := z4.S hSu
      have mEE : mRs (xI (xI (xI (xI u 1011 (bM i).length (nI (mT (bM i)).length)) 1012 (bM i).length (nI (sxl i))) 1013 (bM i).length (nI 0)) 1014 (bM i).length (nI (i + 1))) 0 0 (bM i ++ [(sx_B.getD i [], some (1048576 + i), [])]) := by
        have h9 := mRs_end (x := (sx_B.getD i [], some (1048576 + i), [])) hR.2.2.2.2.2.1
        rw [show bN ((sx_B.getD i [], some (1048576 + i), ([] : List Int32)) : Me).2.1 = i + 1 from by show 1048576 + i - 1048575 = i + 1; omega] at h9
        exact h9
      have inner : ∀ (dd k : Nat) (h : mu_T), k + dd = sxl i → rs (xI (xI (xI (xI u 1011 (bM i).length (nI (mT (bM i)).length)) 1012 (bM i).length (nI (sxl i))) 1013 (bM i).length (nI 0)) 1014 (bM i).length (nI (i + 1))) h [27] [1015] → gI h 1003 27 = nI ((mT (bM i)).length + k) → rwA h 1015 0 (mT (bM i) ++ (sx_B.getD i []).take k) → Vv pp l ee (rmT 4 0 0) ss mm aa bb mt cd 4 q (MQ bb (Qw q (fun v w => v = none ∧ rs g w.2.2 [21, 27, 28, 29] [1011, 1012, 1013, 1014, 1015] ∧ RM w.2.2 (bM 17))) aa ss 0 0 (fun a => q.1 ≤ a)) 81 [some (.ref 1003), some (.int (nI (i + 1))), some (.ref (1048640 + i)), some (.int (nI k))] [] (0, 0, h) := by
        intro dd
        induction dd with
        | zero =>
          intro k h hke hz h27 hr
          rw [Nat.add_zero] at hke
          have hSh := hz.S hSG
          have key : ∀ r, r ≠ 1003 → r ≠ 1015 → ∀ j, gI (xI h 1003 21 (nI (i + 1))) r j = gI (xI (xI (xI (xI u 1011 (bM i).length (nI (mT (bM i)).length)) 1012 (bM i).length (nI (sxl i))) 1013 (bM i).length (nI 0)) 1014 (bM i).length (nI (i + 1))) r j := fun r h3 h5 j => (gI_na h3).trans (hz.row (by simp; exact h5) h3 j)
          refine v_iload_n X (dk D_Rf_beginMeanings 48 rfl) rfl ?_
          refine v_aload_n X (dk D_Rf_beginMeanings 49 rfl) rfl ?_
          refine v_invVS (b := 1048640 + i) (As := []) (st := [.int (nI k)]) X (c_St_length l q (g := h) (by omega)) (dk D_Rf_beginMeanings 50 rfl) (ML.p G_Rf_204 (by decide +kernel)) K_St_length V_St_length (X.sf.2.2.1 i (by omega)).1 rfl rfl (Nat.le_of_ble_eq_true rfl) (Nat.le_of_ble_eq_true rfl) (Nat.le_of_ble_eq_true rfl) (Nat.le_of_ble_eq_true rfl) (Nat.le_of_ble_eq_true rfl) ?_
          rintro v w ⟨rfl, hw⟩
          rw [hw]
          show Vv _ _ _ _ _ _ _ _ _ _ _ _ _ _ _ [.int (nI (sxl i)), .int (nI k)] (0, 0, h)
          refine v_icmp_ge (tgt := 120) X (dk D_Rf_beginMeanings 51 rfl) (by decide) (fun _ => ?_) (fun c86 => absurd (nI_le (by omega) (by omega)) c86)
          refine v_aload_n X (dk D_Rf_beginMeanings 69 rfl) rfl ?_
          refine v_dup X (dk D_Rf_beginMeanings 70 rfl) rfl ?_
          refine v_getI X (dk D_Rf_beginMeanings 71 rfl) F_Rf_188 rfl rfl (hSh.lt (by decide)) ?_
          rw [show gI h 1003 21 = nI i from (hz.2 21 (by decide)).trans ((z4.2 21 (by decide)).trans (hR.1.trans (by rw [bM_len])))]
          refine v_iconst (v := 1) X (dk D_Rf_beginMeanings 72 rfl) (by decide) ?_
          refine v_iadd X (dk D_Rf_beginMeanings 73 rfl) ?_
          rw [nI_1]
          refine v_putI X (dk D_Rf_beginMeanings 74 rfl) F_Rf_188 CK_Rf rfl rfl (hSh.lt (by decide)) rfl rfl ?_
          refine v_iinc (v := nI (i + 1 + 1)) (lb := [some (.ref 1003), some (.int (nI (i + 1 + 1))), some (.ref (1048640 + i)), some (.int (nI k))]) X (dk D_Rf_beginMeanings 75 rfl) rfl (nI_1 _) (by decide) rfl ?_
          refine v_goto (tgt := 22) X (dk D_Rf_beginMeanings 76 rfl) (by decide) ?_
          exact v_weak (la := [some (.ref 1003), some (.int (nI (i + 1 + 1))), none, none]) ⟨rfl, rfl, trivial⟩ <| ih (i + 1) _ (by omega) ((hs.tr (z4.mono (by simp) (by simp))).tr ((hz.mono (by simp) (by simp)).fI (by decide))) ⟨(gI_eq _ _ _ _).trans (by rw [bM_len]), ((gI_nk (by decide)).trans h27).trans (by rw [hT1, hke]), ((gI_nk (by decide)).trans ((hz.2 28 (by decide)).trans ((z4.2 28 (by decide)).trans hR.2.2.1))).trans (by rw [(bM_cD i).1, (bM_cD (i + 1)).1]), ((gI_nk (by decide)).trans ((hz.2 29 (by decide)).trans ((z4.2 29 (by decide)).trans hR.2.2.2.1))).trans (by rw [(bM_cD i).2, (bM_cD (i + 1)).2]), fun j hj => (gI_na (by decide)).trans (by rw [bM, mT_app, show mT [((sx_B.getD i [], some (1048576 + i), []) : Me)] = (sx_B.getD i [] ++ []) ++ [] from rfl, List.append_nil, List.append_nil] at hj ⊢; rw [List.take_of_length_le (by rw [hke]; exact Nat.le_refl _)] at hr; exact hr j hj), mRs_of mEE (fun j _ _ => ⟨key _ (by decide) (by decide) j, key _ (by decide) (by decide) j, key _ (by decide) (by decide) j, key _ (by decide) (by decide) j⟩), by rw [bM_len]; omega, by have := bM_T (i + 1) (by omega); omega, bM_ok (i + 1) (by omega)⟩
        | succ dd ihk =>
          intro k h hke hz h27 hr
          have hSh := hz.S hSG
          have hkl : k < (sx_B.getD i []).length := (show k < sxl i by omega)
          have hpl : (mT (bM i) ++ (sx_B.getD i []).take k).length = (mT (bM i)).length + k := by rw [List.length_append, List.length_take]; omega
          refine v_iload_n X (dk D_Rf_beginMeanings 48 rfl) rfl ?_
          refine v_aload_n X (dk D_Rf_beginMeanings 49 rfl) rfl ?_
          refine v_invVS (b := 1048640 + i) (As := []) (st := [.int (nI k)]) X (c_St_length l q (g := h) (by omega)) (dk D_Rf_beginMeanings 50 rfl) (ML.p G_Rf_204 (by decide +kernel)) K_St_length V_St_length (X.sf.2.2.1 i (by omega)).1 rfl rfl (Nat.le_of_ble_eq_true rfl) (Nat.le_of_ble_eq_true rfl) (Nat.le_of_ble_eq_true rfl) (Nat.le_of_ble_eq_true rfl) (Nat.le_of_ble_eq_true rfl) ?_
          rintro v w ⟨rfl, hw⟩
          rw [hw]
          show Vv _ _ _ _ _ _ _ _ _ _ _ _ _ _ _ [.int (nI (sxl i)), .int (nI k)] (0, 0, h)
          refine v_icmp_ge (tgt := 120) X (dk D_Rf_beginMeanings 51 rfl) (by decide) (fun c86 => absurd c86 (nI_ge (by omega) (by omega))) (fun _ => ?_)
          refine v_aload_n X (dk D_Rf_beginMeanings 52 rfl) rfl ?_
          refine v_getF X (dk D_Rf_beginMeanings 53 rfl) F_Rf_46 rfl rfl (hSh.lt (by decide)) (hSh.2 1003 26) ?_
          refine v_aload_n X (dk D_Rf_beginMeanings 54 rfl) rfl ?_
          refine v_getI X (dk D_Rf_beginMeanings 55 rfl) F_Rf_191 rfl rfl (hSh.lt (by decide)) ?_
          rw [h27]
          refine v_aload_n X (dk D_Rf_beginMeanings 56 rfl) rfl ?_
          refine v_iload_n X (dk D_Rf_beginMeanings 57 rfl) rfl ?_
          refine v_invVS (b := 1048640 + i) (As := [.int (nI k)]) (st := [.int (nI ((mT (bM i)).length + k)), .ref 1015]) X (c_St_charAt l q (g := h) (by omega) (show k < sxl i by omega)) (dk D_Rf_beginMeanings 58 rfl) (ML.p G_Rf_209 (by decide +kernel)) K_St_charAt V_St_charAt (X.sf.2.2.1 i (by omega)).1 rfl rfl (Nat.le_of_ble_eq_true rfl) (Nat.le_of_ble_eq_true rfl) (Nat.le_of_ble_eq_true rfl) (Nat.le_of_ble_eq_true rfl) (Nat.le_of_ble_eq_true rfl) ?_
          rintro v w ⟨rfl, hw⟩
          rw [hw]
          show Vv _ _ _ _ _ _ _ _ _ _ _ _ _ _ _ [.int (sxc i k), .int (nI ((mT (bM i)).length + k)), .ref 1015] (0, 0, h)
          refine v_i2b X (dk D_Rf_beginMeanings 59 rfl) rfl ?_
          rw [sxc_b i (by omega) k (by have := sxl_lt i (by omega); omega)]
          refine v_bast X (dk D_Rf_beginMeanings 60 rfl) rfl (hSh.lt (by decide)) (vp_in_nI (show (mT (bM i)).length + k < 16684 by omega) (by decide)) rfl ?_
          rw [nI_clamp (by omega), sxc_b i (by omega) k (by have := sxl_lt i (by omega); omega)]
          refine v_aload_n X (dk D_Rf_beginMeanings 61 rfl) rfl ?_
          refine v_dup X (dk D_Rf_beginMeanings 62 rfl) rfl ?_
          refine v_getI X (dk D_Rf_beginMeanings 63 rfl) F_Rf_191 rfl rfl (hSh.lt (by decide)) ?_
          rw [show gI (xI h 1015 ((mT (bM i)).length + k) (sxc i k)) 1003 27 = nI ((mT (bM i)).length + k) from (gI_na (by decide)).trans h27]
          refine v_iconst (v := 1) X (dk D_Rf_beginMeanings 64 rfl) (by decide) ?_
          refine v_iadd X (dk D_Rf_beginMeanings 65 rfl) ?_
          rw [nI_1]
          refine v_putI X (dk D_Rf_beginMeanings 66 rfl) F_Rf_191 CK_Rf rfl rfl (hSh.lt (by decide)) rfl rfl ?_
          refine v_iinc (v := nI (k + 1)) (lb := [some (.ref 1003), some (.int (nI (i + 1))), some (.ref (1048640 + i)), some (.int (nI (k + 1)))]) X (dk D_Rf_beginMeanings 67 rfl) rfl (nI_1 _) (by decide) rfl ?_
          refine v_goto (tgt := 81) X (dk D_Rf_beginMeanings 68 rfl) (by decide) ?_
          exact ihk (k + 1) _ (by omega) ((hz.rI (by decide) (by decide)).fI (by decide)) (gI_eq _ _ _ _) (by have h9 := rwA_snoc (x := sxc i k) hr; rw [Nat.zero_add, hpl] at h9; rw [take_s (show k < (sx_B.getD i []).length from hkl), ← List.append_assoc]; exact fun j hj => (gI_na (by decide)).trans (h9 j hj))
      refine v_iload_n X (dk D_Rf_beginMeanings 14 rfl) rfl ?_
      refine v_bipush (v := 17) X (dk D_Rf_beginMeanings 15 rfl) (by decide) ?_
      refine v_icmp_gt (tgt := 136) X (dk D_Rf_beginMeanings 16 rfl) (by decide) (fun c25 => absurd c25 (nI_nlt (a := 17) (b := i + 1) (by omega) (by decide))) (fun _ => ?_)
      refine v_iload_n X (dk D_Rf_beginMeanings 17 rfl) rfl ?_
      refine v_invS (As := [.int (nI (i + 1))]) (st := []) X (r_nameOf l q (i := i) (by omega)) (dk D_Rf_beginMeanings 18 rfl) G_Rf_200 K_Rf_nameOf S_Rf_nameOf rfl rfl (Nat.le_of_ble_eq_true rfl) (Nat.le_of_ble_eq_true rfl) (Nat.le_of_ble_eq_true rfl) (Nat.le_of_ble_eq_true rfl) (Nat.le_of_ble_eq_true rfl) ?_
      rintro v w ⟨rfl, hw⟩
      rw [hw]
      show Vv _ _ _ _ _ _ _ _ _ _ _ _ _ _ _ [.ref (1048640 + i)] (0, 0, u)
      refine v_astore_n (lb := [some (.ref 1003), some (.int (nI (i + 1))), some (.ref (1048640 + i)), none]) X (dk D_Rf_beginMeanings 19 rfl) (by decide) rfl ?_
      refine v_aload_n X (dk D_Rf_beginMeanings 20 rfl) rfl ?_
      refine v_getF X (dk D_Rf_beginMeanings 21 rfl) F_Rf_34 rfl rfl (hSu.lt (by decide)) (hSu.2 1003 22) ?_
      refine v_aload_n X (dk D_Rf_beginMeanings 22 rfl) rfl ?_
      refine v_getI X (dk D_Rf_beginMeanings 23 rfl) F_Rf_188 rfl rfl (hSu.lt (by decide)) ?_
      refine v_aload_n X (dk D_Rf_beginMeanings 24 rfl) rfl ?_
      refine v_getI X (dk D_Rf_beginMeanings 25 rfl) F_Rf_191 rfl rfl (hSu.lt (by decide)) ?_
      rw [(show gI u 1003 27 = nI (mT (bM i)).length from hR.2.1)]
      refine v_iast X (dk D_Rf_beginMeanings 26 rfl) rfl (hSu.lt (by decide)) (by rw [hR.1]; exact vp_in_nI (show (bM i).length < 340 by rw [bM_len]; omega) (by decide)) ?_
      rw [hR.1, nI_clamp (by rw [bM_len]; omega)]
      refine v_aload_n X (dk D_Rf_beginMeanings 27 rfl) rfl ?_
      refine v_getF X (dk D_Rf_beginMeanings 28 rfl) F_Rf_37 rfl rfl (hSu.lt (by decide)) (hSu.2 1003 23) ?_
      refine v_aload_n X (dk D_Rf_beginMeanings 29 rfl) rfl ?_
      refine v_getI X (dk D_Rf_beginMeanings 30 rfl) F_Rf_188 rfl rfl (hSu.lt (by decide)) ?_
      refine v_aload_n X (dk D_Rf_beginMeanings 31 rfl) rfl ?_
      refine v_invVS (b := 1048640 + i) (As := []) (st := [.int (gI (xI u 1011 (bM i).length (nI (mT (bM i)).length)) 1003 21), .ref 1012]) X (c_St_length l q (g := (xI u 1011 (bM i).length (nI (mT (bM i)).length))) (by omega)) (dk D_Rf_beginMeanings 32 rfl) (ML.p G_Rf_204 (by decide +kernel)) K_St_length V_St_length (X.sf.2.2.1 i (by omega)).1 rfl rfl (Nat.le_of_ble_eq_true rfl) (Nat.le_of_ble_eq_true rfl) (Nat.le_of_ble_eq_true rfl) (Nat.le_of_ble_eq_true rfl) (Nat.le_of_ble_eq_true rfl) ?_
      rintro v w ⟨rfl, hw⟩
      rw [hw]
      show Vv _ _ _ _ _ _ _ _ _ _ _ _ _ _ _ [.int (nI (sxl i)), .int (gI (xI u 1011 (bM i).length (nI (mT (bM i)).length)) 1003 21), .ref 1012] (0, 0, (xI u 1011 (bM i).length (nI (mT (bM i)).length)))
      refine v_iast X (dk D_Rf_beginMeanings 33 rfl) rfl (hSu.lt (by decide)) (by rw [(show gI (xI u 1011 (bM i).length (nI (mT (bM i)).length)) 1003 21 = nI (bM i).length from (gI_na (by decide)).trans (hR.1))]; exact vp_in_nI (show (bM i).length < 340 by rw [bM_len]; omega) (by decide)) ?_
      rw [(show gI (xI u 1011 (bM i).length (nI (mT (bM i)).length)) 1003 21 = nI (bM i).length from (gI_na (by decide)).trans (hR.1)), nI_clamp (by rw [bM_len]; omega)]
      refine v_aload_n X (dk D_Rf_beginMeanings 34 rfl) rfl ?_
      refine v_getF X (dk D_Rf_beginMeanings 35 rfl) F_Rf_40 rfl rfl (hSu.lt (by decide)) (hSu.2 1003 24) ?_
      refine v_aload_n X (dk D_Rf_beginMeanings 36 rfl) rfl ?_
      refine v_getI X (dk D_Rf_beginMeanings 37 rfl) F_Rf_188 rfl rfl (hSu.lt (by decide)) ?_
      refine v_iconst (v := nI 0) X (dk D_Rf_beginMeanings 38 rfl) (by decide) ?_
      refine v_iast X (dk D_Rf_beginMeanings 39 rfl) rfl (hSu.lt (by decide)) (by rw [(show gI (xI (xI u 1011 (bM i).length (nI (mT (bM i)).length)) 1012 (bM i).length (nI (sxl i))) 1003 21 = nI (bM i).length from (gI_na (by decide)).trans ((gI_na (by decide)).trans (hR.1)))]; exact vp_in_nI (show (bM i).length < 340 by rw [bM_len]; omega) (by decide)) ?_
      rw [(show gI (xI (xI u 1011 (bM i).length (nI (mT (bM i)).length)) 1012 (bM i).length (nI (sxl i))) 1003 21 = nI (bM i).length from (gI_na (by decide)).trans ((gI_na (by decide)).trans (hR.1))), nI_clamp (by rw [bM_len]; omega)]
      refine v_aload_n X (dk D_Rf_beginMeanings 40 rfl) rfl ?_
      refine v_getF X (dk D_Rf_beginMeanings 41 rfl) F_Rf_43 rfl rfl (hSu.lt (by decide)) (hSu.2 1003 25) ?_
      refine v_aload_n X (dk D_Rf_beginMeanings 42 rfl) rfl ?_
      refine v_getI X (dk D_Rf_beginMeanings 43 rfl) F_Rf_188 rfl rfl (hSu.lt (by decide)) ?_
      refine v_iload_n X (dk D_Rf_beginMeanings 44 rfl) rfl ?_
      refine v_iast X (dk D_Rf_beginMeanings 45 rfl) rfl (hSu.lt (by decide)) (by rw [(show gI (xI (xI (xI u 1011 (bM i).length (nI (mT (bM i)).length)) 1012 (bM i).length (nI (sxl i))) 1013 (bM i).length (nI 0)) 1003 21 = nI (bM i).length from (gI_na (by decide)).trans ((gI_na (by decide)).trans ((gI_na (by decide)).trans (hR.1))))]; exact vp_in_nI (show (bM i).length < 340 by rw [bM_len]; omega) (by decide)) ?_
      rw [(show gI (xI (xI (xI u 1011 (bM i).length (nI (mT (bM i)).length)) 1012 (bM i).length (nI (sxl i))) 1013 (bM i).length (nI 0)) 1003 21 = nI (bM i).length from (gI_na (by decide)).trans ((gI_na (by decide)).trans ((gI_na (by decide)).trans (hR.1)))), nI_clamp (by rw [bM_len]; omega)]
      refine v_iconst (v := nI 0) X (dk D_Rf_beginMeanings 46 rfl) (by decide) ?_
      refine v_istore_n (lb := [some (.ref 1003), some (.int (nI (i + 1))), some (.ref (1048640 + i)), some (.int (nI 0))]) X (dk D_Rf_beginMeanings 47 rfl) (by decide) rfl ?_
      exact inner (sxl i) 0 _ (by omega) (rs.rf _ _ _) ((z4.2 27 (by decide)).trans hR.2.1) (by rw [List.take_zero, List.append_nil]; exact fun j hj => (z4.row (by decide) (by decide) _).trans (hR.2.2.2.2.1 j hj))
  refine v_aload_n X (dk D_Rf_beginMeanings 0 rfl) rfl ?_
  refine v_iconst (v := nI 0) X (dk D_Rf_beginMeanings 1 rfl) (by decide) ?_
  refine v_putI X (dk D_Rf_beginMeanings 2 rfl) F_Rf_188 CK_Rf rfl rfl (hS.lt (by decide)) rfl rfl ?_
  refine v_aload_n X (dk D_Rf_beginMeanings 3 rfl) rfl ?_
  refine v_iconst (v := nI 0) X (dk D_Rf_beginMeanings 4 rfl) (by decide) ?_
  refine v_putI X (dk D_Rf_beginMeanings 5 rfl) F_Rf_191 CK_Rf rfl rfl (hS.lt (by decide)) rfl rfl ?_
  refine v_aload_n X (dk D_Rf_beginMeanings 6 rfl) rfl ?_
  refine v_iconst (v := nI 0) X (dk D_Rf_beginMeanings 7 rfl) (by decide) ?_
  refine v_putI X (dk D_Rf_beginMeanings 8 rfl) F_Rf_194 CK_Rf rfl rfl (hS.lt (by decide)) rfl rfl ?_
  refine v_aload_n X (dk D_Rf_beginMeanings 9 rfl) rfl ?_
  refine v_iconst (v := nI 0) X (dk D_Rf_beginMeanings 10 rfl) (by decide) ?_
  refine v_putI X (dk D_Rf_beginMeanings 11 rfl) F_Rf_197 CK_Rf rfl rfl (hS.lt (by decide)) rfl rfl ?_
  refine v_iconst (v := nI (0 + 1)) X (dk D_Rf_beginMeanings 12 rfl) (by decide) ?_
  refine v_istore_n (lb := [some (.ref 1003), some (.int (nI (0 + 1))), none, none]) X (dk D_Rf_beginMeanings 13 rfl) (by decide) rfl ?_
  exact loop 17 0 _ rfl (((((rs.rf g _ _).fI (by decide)).fI (by decide)).fI (by decide)).fI (by decide)) ⟨(gI_nk (by decide)).trans ((gI_nk (by decide)).trans ((gI_nk (by decide)).trans (gI_eq _ _ _ _))), (gI_nk (by decide)).trans ((gI_nk (by decide)).trans (gI_eq _ _ _ _)), (gI_nk (by decide)).trans (gI_eq _ _ _ _), gI_eq _ _ _ _, fun j hj => absurd hj (Nat.not_lt_zero j), trivial, by decide, by decide, bM_ok 0 (by decide)⟩
