/-! the reference: a meaning is added -/
theorem take_s {xs : List Int32} {j : Nat} (h : j < xs.length) : xs.take (j + 1) = xs.take j ++ [xs.getD j 0] := by
  rw [List.take_succ, List.getD_eq_getElem?_getD, List.getElem?_eq_getElem h]; rfl
theorem rwA_snoc {g : mu_T} {r p : Nat} {xs : List Int32} {x : Int32} (h : rwA g r p xs) : rwA (xI g r (p + xs.length) x) r p (xs ++ [x]) := by
  refine rwA_app.mpr ⟨fun j hj => by rw [gI_nk (by omega)]; exact h j hj, fun j hj => ?_⟩
  rw [List.length_singleton] at hj
  rw [show j = 0 by omega]
  exact gI_eq _ _ _ _
theorem mRs_end {u : mu_T} {M : List Me} {x : Me} (h1 : mRs u 0 0 M) : mRs (xI (xI (xI (xI u 1011 M.length (nI (mT M).length)) 1012 M.length (nI x.1.length)) 1013 M.length (nI x.2.2.length)) 1014 M.length (nI (bN x.2.1))) 0 0 (M ++ [x]) := by
  have key : ∀ j, j ≠ M.length → ∀ r, gI (xI (xI (xI (xI u 1011 M.length (nI (mT M).length)) 1012 M.length (nI x.1.length)) 1013 M.length (nI x.2.2.length)) 1014 M.length (nI (bN x.2.1))) r j = gI u r j := fun j hj r => by rw [gI_nk hj, gI_nk hj, gI_nk hj, gI_nk hj]
  refine mRs_app.mpr ⟨mRs_of h1 (fun j _ hj => ⟨key j (by omega) _, key j (by omega) _, key j (by omega) _, key j (by omega) _⟩), ?_, trivial⟩
  rw [Nat.zero_add, Nat.zero_add]
  exact ⟨(gI_na (by decide)).trans ((gI_na (by decide)).trans ((gI_na (by decide)).trans (gI_eq _ _ _ _))), (gI_na (by decide)).trans ((gI_na (by decide)).trans (gI_eq _ _ _ _)), (gI_na (by decide)).trans (gI_eq _ _ _ _), gI_eq _ _ _ _⟩
set_option maxHeartbeats 4000000 in
set_option maxRecDepth 100000 in
theorem r_addMeaning (l : Launch) (q : ev_T) {p p2 : Nat} {M : List Me} {ys zs : List Int32} {g : mu_T} (hS : Shp g) (hM : RM g M) (hM1 : M.length < 317) (hM2 : (mT M).length + ys.length + zs.length ≤ 16512) (hys : rwA g 1018 p ys) (hzs : rwA g 1018 p2 zs) (hp1 : p + ys.length ≤ 16384) (hp2 : p2 + zs.length ≤ 16384) : Ctr l q M_Rf_addMeaning 0 [.ref 1003, .int (nI p), .int (nI ys.length), .int (nI p2), .int (nI zs.length)] (0, 0, g) (fun v w => v = none ∧ rs g w.2.2 [21, 27, 28, 29] [1011, 1012, 1013, 1014, 1015] ∧ RM w.2.2 (M ++ [(ys, none, zs)])) := by
  have hml := hM.2.2.2.2.2.2.1
  have hT1 : mT (M ++ [(ys, none, zs)]) = mT M ++ ys ++ zs := by rw [mT_app, show mT [((ys, none, zs) : Me)] = (ys ++ zs) ++ [] from rfl, List.append_nil, List.append_assoc]
  have zg : rs g (xI (xI (xI (xI g 1011 M.length (nI (mT M).length)) 1012 M.length (nI ys.length)) 1013 M.length (nI zs.length)) 1014 M.length (nI 0)) [] [1011, 1012, 1013, 1014] := ((((rs.rf g _ _).rI (by decide) (by decide)).rI (by decide) (by decide)).rI (by decide) (by decide)).rI (by decide) (by decide)
  refine Ctr.mk (lb := [some (.ref 1003), some (.int (nI p)), some (.int (nI ys.length)), some (.int (nI p2)), some (.int (nI zs.length)), none]) (by decide +kernel) (Nat.le_of_ble_eq_true rfl) rfl rfl ?_
  intro pp ee ss mm aa bb mt cd X hrt hlk hnm
  refine v_inv (fun hBB _ => ?_)
  have tail : ∀ (u : mu_T) (k : Int32), rs (xI (xI (xI (xI g 1011 M.length (nI (mT M).length)) 1012 M.length (nI ys.length)) 1013 M.length (nI zs.length)) 1014 M.length (nI 0)) u [] [1015] → rwA u 1015 0 (mT M ++ ys ++ zs) → Vv pp l ee (rmT 0 0 0) ss mm aa bb mt cd 6 q (MQ bb (Qw q (fun v w => v = none ∧ rs g w.2.2 [21, 27, 28, 29] [1011, 1012, 1013, 1014, 1015] ∧ RM w.2.2 (M ++ [(ys, none, zs)]))) aa ss 0 0 (fun a => q.1 ≤ a)) 119 [some (.ref 1003), some (.int (nI p)), some (.int (nI ys.length)), some (.int (nI p2)), some (.int (nI zs.length)), some (.int k)] [] (0, 0, u) := by
    intro u k hz f5
    have hSu := hz.S (zg.S hS)
    have g21 : gI u 1003 21 = nI M.length := (hz.2 21 (by decide)).trans ((zg.2 21 (by decide)).trans hM.1)
    have g27 : gI u 1003 27 = nI (mT M).length := (hz.2 27 (by decide)).trans ((zg.2 27 (by decide)).trans hM.2.1)
    have g28 : gI u 1003 28 = nI (cD M) := (hz.2 28 (by decide)).trans ((zg.2 28 (by decide)).trans hM.2.2.1)
    have g29 : gI u 1003 29 = nI (cB M) := (hz.2 29 (by decide)).trans ((zg.2 29 (by decide)).trans hM.2.2.2.1)
    have z5 : rs u (xI (xI (xI (xI u 1003 27 (nI ((mT M).length + ys.length + zs.length))) 1003 28 (nI (cD M + 1))) 1003 29 (nI (cB M + ys.length + zs.length))) 1003 21 (nI (M.length + 1))) [21, 27, 28, 29] [] := ((((rs.rf u _ _).fI (by decide)).fI (by decide)).fI (by decide)).fI (by decide)
    have z4 : rs u (xI (xI (xI (xI u 1003 27 (nI ((mT M).length + ys.length + zs.length))) 1003 28 (nI (cD M + 1))) 1003 29 (nI (cB M + ys.length + zs.length))) 1003 21 (nI (M.length + 1))) [21, 27, 28, 29] [1011, 1012, 1013, 1014, 1015] := z5.mono (by simp) (by simp)
    have z0 : rs g (xI (xI (xI (xI g 1011 M.length (nI (mT M).length)) 1012 M.length (nI ys.length)) 1013 M.length (nI zs.length)) 1014 M.length (nI 0)) [21, 27, 28, 29] [1011, 1012, 1013, 1014, 1015] := zg.mono (by simp) (by simp)
    have key : ∀ r, r ≠ 1003 → r ≠ 1015 → ∀ j, gI (xI (xI (xI (xI u 1003 27 (nI ((mT M).length + ys.length + zs.length))) 1003 28 (nI (cD M + 1))) 1003 29 (nI (cB M + ys.length + zs.length))) 1003 21 (nI (M.length + 1))) r j = gI (xI (xI (xI (xI g 1011 M.length (nI (mT M).length)) 1012 M.length (nI ys.length)) 1013 M.length (nI zs.length)) 1014 M.length (nI 0)) r j := fun r h3 h5 j => (gI_na h3).trans ((gI_na h3).trans ((gI_na h3).trans ((gI_na h3).trans (hz.row (by simp; exact h5) h3 j))))
    refine v_aload_n X (dk D_Rf_addMeaning 67 rfl) rfl ?_
    refine v_aload_n X (dk D_Rf_addMeaning 68 rfl) rfl ?_
    refine v_getI X (dk D_Rf_addMeaning 69 rfl) F_Rf_191 rfl rfl (hSu.lt (by decide)) ?_
    rw [g27]
    refine v_iload_n X (dk D_Rf_addMeaning 70 rfl) rfl ?_
    refine v_iadd X (dk D_Rf_addMeaning 71 rfl) ?_
    rw [nI_add]
    refine v_iload X (dk D_Rf_addMeaning 72 rfl) rfl ?_
    refine v_iadd X (dk D_Rf_addMeaning 73 rfl) ?_
    rw [nI_add]
    refine v_putI X (dk D_Rf_addMeaning 74 rfl) F_Rf_191 CK_Rf rfl rfl (hSu.lt (by decide)) rfl rfl ?_
    refine v_aload_n X (dk D_Rf_addMeaning 75 rfl) rfl ?_
    refine v_dup X (dk D_Rf_addMeaning 76 rfl) rfl ?_
    refine v_getI X (dk D_Rf_addMeaning 77 rfl) F_Rf_194 rfl rfl (hSu.lt (by decide)) ?_
    rw [show gI (xI u 1003 27 (nI ((mT M).length + ys.length + zs.length))) 1003 28 = nI (cD M) from (gI_nk (by decide)).trans (g28)]
    refine v_iconst (v := 1) X (dk D_Rf_addMeaning 78 rfl) (by decide) ?_
    refine v_iadd X (dk D_Rf_addMeaning 79 rfl) ?_
    rw [nI_1]
    refine v_putI X (dk D_Rf_addMeaning 80 rfl) F_Rf_194 CK_Rf rfl rfl (hSu.lt (by decide)) rfl rfl ?_
    refine v_aload_n X (dk D_Rf_addMeaning 81 rfl) rfl ?_
    refine v_aload_n X (dk D_Rf_addMeaning 82 rfl) rfl ?_
    refine v_getI X (dk D_Rf_addMeaning 83 rfl) F_Rf_197 rfl rfl (hSu.lt (by decide)) ?_
    rw [show gI (xI (xI u 1003 27 (nI ((mT M).length + ys.length + zs.length))) 1003 28 (nI (cD M + 1))) 1003 29 = nI (cB M) from (gI_nk (by decide)).trans ((gI_nk (by decide)).trans (g29))]
    refine v_iload_n X (dk D_Rf_addMeaning 84 rfl) rfl ?_
    refine v_iadd X (dk D_Rf_addMeaning 85 rfl) ?_
    rw [nI_add]
    refine v_iload X (dk D_Rf_addMeaning 86 rfl) rfl ?_
    refine v_iadd X (dk D_Rf_addMeaning 87 rfl) ?_
    rw [nI_add]
    refine v_putI X (dk D_Rf_addMeaning 88 rfl) F_Rf_197 CK_Rf rfl rfl (hSu.lt (by decide)) rfl rfl ?_
    refine v_aload_n X (dk D_Rf_addMeaning 89 rfl) rfl ?_
    refine v_dup X (dk D_Rf_addMeaning 90 rfl) rfl ?_
    refine v_getI X (dk D_Rf_addMeaning 91 rfl) F_Rf_188 rfl rfl (hSu.lt (by decide)) ?_
    rw [show gI (xI (xI (xI u 1003 27 (nI ((mT M).length + ys.length + zs.length))) 1003 28 (nI (cD M + 1))) 1003 29 (nI (cB M + ys.length + zs.length))) 1003 21 = nI M.length from (gI_nk (by decide)).trans ((gI_nk (by decide)).trans ((gI_nk (by decide)).trans (g21)))]
    refine v_iconst (v := 1) X (dk D_Rf_addMeaning 92 rfl) (by decide) ?_
    refine v_iadd X (dk D_Rf_addMeaning 93 rfl) ?_
    rw [nI_1]
    refine v_putI X (dk D_Rf_addMeaning 94 rfl) F_Rf_188 CK_Rf rfl rfl (hSu.lt (by decide)) rfl rfl ?_
    exact v_vret X hlk hrt (dk D_Rf_addMeaning 95 rfl) ⟨rfl, z0.tr ((hz.mono (by simp) (by simp)).tr z4), (gI_eq _ _ _ _).trans (by rw [List.length_append]; rfl), ((gI_nk (by decide)).trans ((gI_nk (by decide)).trans ((gI_nk (by decide)).trans (gI_eq _ _ _ _)))).trans (by rw [hT1, List.length_append, List.length_append]), ((gI_nk (by decide)).trans ((gI_nk (by decide)).trans (gI_eq _ _ _ _))).trans (by rw [cD_app]; rfl), ((gI_nk (by decide)).trans (gI_eq _ _ _ _)).trans (by rw [cB_app, show cB [(ys, none, zs)] = (ys ++ zs).length + 0 from rfl, List.length_append]; exact congrArg nI (by omega)), fun j hj => by rw [z5.row (r := 1015) (by decide) (by decide), hT1]; rw [hT1] at hj; exact f5 j hj, mRs_of (mRs_end (x := (ys, none, zs)) hM.2.2.2.2.2.1) (fun j _ _ => ⟨key _ (by decide) (by decide) j, key _ (by decide) (by decide) j, key _ (by decide) (by decide) j, key _ (by decide) (by decide) j⟩), by rw [List.length_append, List.length_singleton]; omega, by rw [hT1, List.length_append, List.length_append]; omega, fun x hx c hc => by rcases List.mem_append.mp hx with h | h; exact hM.2.2.2.2.2.2.2.2 x h c hc; rw [List.mem_singleton.mp h] at hc; cases hc⟩
  have lpB : ∀ (d j : Nat) (u : mu_T), j + d = zs.length → rs (xI (xI (xI (xI g 1011 M.length (nI (mT M).length)) 1012 M.length (nI ys.length)) 1013 M.length (nI zs.length)) 1014 M.length (nI 0)) u [] [1015] → rwA u 1015 0 ((mT M ++ ys) ++ zs.take j) → Vv pp l ee (rmT 0 0 0) ss mm aa bb mt cd 6 q (MQ bb (Qw q (fun v w => v = none ∧ rs g w.2.2 [21, 27, 28, 29] [1011, 1012, 1013, 1014, 1015] ∧ RM w.2.2 (M ++ [(ys, none, zs)]))) aa ss 0 0 (fun a => q.1 ≤ a)) 83 [some (.ref 1003), some (.int (nI p)), some (.int (nI ys.length)), some (.int (nI p2)), some (.int (nI zs.length)), some (.int (nI j))] [] (0, 0, u) := by
    intro d
    induction d with
    | zero =>
      intro j u hjd hz hr
      have hSu := hz.S (zg.S hS)
      refine v_iload X (dk D_Rf_addMeaning 47 rfl) rfl ?_
      refine v_iload X (dk D_Rf_addMeaning 48 rfl) rfl ?_
      refine v_icmp_ge (tgt := 119) X (dk D_Rf_addMeaning 49 rfl) (by decide) (fun _ => ?_) (fun c87 => absurd (nI_le (by omega) (by omega)) c87)
      exact tail u _ hz (by rw [List.take_of_length_le (by omega)] at hr; exact hr)
    | succ d ih =>
      intro j u hjd hz hr
      have hSu := hz.S (zg.S hS)
      have hpl : ((mT M ++ ys) ++ zs.take j).length = ((mT M).length + ys.length) + j := by simp only [List.length_append, List.length_take]; omega
      have g21 : gI u 1003 21 = nI M.length := (hz.2 21 (by decide)).trans ((zg.2 21 (by decide)).trans hM.1)
      have g27 : gI u 1003 27 = nI (mT M).length := (hz.2 27 (by decide)).trans ((zg.2 27 (by decide)).trans hM.2.1)
      have g28 : gI u 1003 28 = nI (cD M) := (hz.2 28 (by decide)).trans ((zg.2 28 (by decide)).trans hM.2.2.1)
      have g29 : gI u 1003 29 = nI (cB M) := (hz.2 29 (by decide)).trans ((zg.2 29 (by decide)).trans hM.2.2.2.1)
      refine v_iload X (dk D_Rf_addMeaning 47 rfl) rfl ?_
      refine v_iload X (dk D_Rf_addMeaning 48 rfl) rfl ?_
      refine v_icmp_ge (tgt := 119) X (dk D_Rf_addMeaning 49 rfl) (by decide) (fun c87 => absurd c87 (nI_ge (by omega) (by omega))) (fun _ => ?_)
      refine v_aload_n X (dk D_Rf_addMeaning 50 rfl) rfl ?_
      refine v_getF X (dk D_Rf_addMeaning 51 rfl) F_Rf_46 rfl rfl (hSu.lt (by decide)) (hSu.2 1003 26) ?_
      refine v_aload_n X (dk D_Rf_addMeaning 52 rfl) rfl ?_
      refine v_getI X (dk D_Rf_addMeaning 53 rfl) F_Rf_191 rfl rfl (hSu.lt (by decide)) ?_
      rw [g27]
      refine v_iload_n X (dk D_Rf_addMeaning 54 rfl) rfl ?_
      refine v_iadd X (dk D_Rf_addMeaning 55 rfl) ?_
      rw [nI_add]
      refine v_iload X (dk D_Rf_addMeaning 56 rfl) rfl ?_
      refine v_iadd X (dk D_Rf_addMeaning 57 rfl) ?_
      rw [nI_add]
      refine v_aload_n X (dk D_Rf_addMeaning 58 rfl) rfl ?_
      refine v_getF X (dk D_Rf_addMeaning 59 rfl) F_Rf_56 rfl rfl (hSu.lt (by decide)) (hSu.2 1003 35) ?_
      refine v_iload_n X (dk D_Rf_addMeaning 60 rfl) rfl ?_
      refine v_iload X (dk D_Rf_addMeaning 61 rfl) rfl ?_
      refine v_iadd X (dk D_Rf_addMeaning 62 rfl) ?_
      rw [nI_add]
      refine v_bald X (dk D_Rf_addMeaning 63 rfl) rfl (hSu.lt (by decide)) (vp_in_nI (show p2 + j < 16385 by omega) (by decide)) ?_
      rw [nI_clamp (by omega), hz.row (by decide) (by decide), zg.row (by decide) (by decide), hzs j (by omega)]
      refine v_bast X (dk D_Rf_addMeaning 64 rfl) rfl (hSu.lt (by decide)) (vp_in_nI (show ((mT M).length + ys.length) + j < 16684 by omega) (by decide)) rfl ?_
      rw [nI_clamp (by omega), show (zs.getD j 0).toInt8.toInt32 = zs.getD j 0 from rw_byte hBB (r := 1018) (N := 16385) rfl hzs _ (getD_mem (by omega))]
      refine v_iinc (v := nI (j + 1)) (lb := [some (.ref 1003), some (.int (nI p)), some (.int (nI ys.length)), some (.int (nI p2)), some (.int (nI zs.length)), some (.int (nI (j + 1)))]) X (dk D_Rf_addMeaning 65 rfl) rfl (nI_1 _) (by decide) rfl ?_
      refine v_goto (tgt := 83) X (dk D_Rf_addMeaning 66 rfl) (by decide) ?_
      exact ih (j + 1) _ (by omega) (hz.rI (by decide) (by decide)) (by have h9 := rwA_snoc (x := zs.getD j 0) hr; rw [Nat.zero_add, hpl] at h9; rw [take_s (by omega), ← List.append_assoc]; exact h9)
  have lpA : ∀ (d j : Nat) (u : mu_T), j + d = ys.length → rs (xI (xI (xI (xI g 1011 M.length (nI (mT M).length)) 1012 M.length (nI ys.length)) 1013 M.length (nI zs.length)) 1014 M.length (nI 0)) u [] [1015] → rwA u 1015 0 (mT M ++ ys.take j) → Vv pp l ee (rmT 0 0 0) ss mm aa bb mt cd 6 q (MQ bb (Qw q (fun v w => v = none ∧ rs g w.2.2 [21, 27, 28, 29] [1011, 1012, 1013, 1014, 1015] ∧ RM w.2.2 (M ++ [(ys, none, zs)]))) aa ss 0 0 (fun a => q.1 ≤ a)) 47 [some (.ref 1003), some (.int (nI p)), some (.int (nI ys.length)), some (.int (nI p2)), some (.int (nI zs.length)), some (.int (nI j))] [] (0, 0, u) := by
    intro d
    induction d with
    | zero =>
      intro j u hjd hz hr
      have hSu := hz.S (zg.S hS)
      refine v_iload X (dk D_Rf_addMeaning 27 rfl) rfl ?_
      refine v_iload_n X (dk D_Rf_addMeaning 28 rfl) rfl ?_
      refine v_icmp_ge (tgt := 80) X (dk D_Rf_addMeaning 29 rfl) (by decide) (fun _ => ?_) (fun c50 => absurd (nI_le (by omega) (by omega)) c50)
      refine v_iconst (v := nI 0) X (dk D_Rf_addMeaning 45 rfl) (by decide) ?_
      refine v_istore (lb := [some (.ref 1003), some (.int (nI p)), some (.int (nI ys.length)), some (.int (nI p2)), some (.int (nI zs.length)), some (.int (nI 0))]) X (dk D_Rf_addMeaning 46 rfl) (by decide) rfl ?_
      exact lpB zs.length 0 u (by omega) hz (by rw [List.take_of_length_le (by omega)] at hr; rw [List.take_zero, List.append_nil]; exact hr)
    | succ d ih =>
      intro j u hjd hz hr
      have hSu := hz.S (zg.S hS)
      have hpl : (mT M ++ ys.take j).length = (mT M).length + j := by simp only [List.length_append, List.length_take]; omega
      have g21 : gI u 1003 21 = nI M.length := (hz.2 21 (by decide)).trans ((zg.2 21 (by decide)).trans hM.1)
      have g27 : gI u 1003 27 = nI (mT M).length := (hz.2 27 (by decide)).trans ((zg.2 27 (by decide)).trans hM.2.1)
      have g28 : gI u 1003 28 = nI (cD M) := (hz.2 28 (by decide)).trans ((zg.2 28 (by decide)).trans hM.2.2.1)
      have g29 : gI u 1003 29 = nI (cB M) := (hz.2 29 (by decide)).trans ((zg.2 29 (by decide)).trans hM.2.2.2.1)
      refine v_iload X (dk D_Rf_addMeaning 27 rfl) rfl ?_
      refine v_iload_n X (dk D_Rf_addMeaning 28 rfl) rfl ?_
      refine v_icmp_ge (tgt := 80) X (dk D_Rf_addMeaning 29 rfl) (by decide) (fun c50 => absurd c50 (nI_ge (by omega) (by omega))) (fun _ => ?_)
      refine v_aload_n X (dk D_Rf_addMeaning 30 rfl) rfl ?_
      refine v_getF X (dk D_Rf_addMeaning 31 rfl) F_Rf_46 rfl rfl (hSu.lt (by decide)) (hSu.2 1003 26) ?_
      refine v_aload_n X (dk D_Rf_addMeaning 32 rfl) rfl ?_
      refine v_getI X (dk D_Rf_addMeaning 33 rfl) F_Rf_191 rfl rfl (hSu.lt (by decide)) ?_
      rw [g27]
      refine v_iload X (dk D_Rf_addMeaning 34 rfl) rfl ?_
      refine v_iadd X (dk D_Rf_addMeaning 35 rfl) ?_
      rw [nI_add]
      refine v_aload_n X (dk D_Rf_addMeaning 36 rfl) rfl ?_
      refine v_getF X (dk D_Rf_addMeaning 37 rfl) F_Rf_56 rfl rfl (hSu.lt (by decide)) (hSu.2 1003 35) ?_
      refine v_iload_n X (dk D_Rf_addMeaning 38 rfl) rfl ?_
      refine v_iload X (dk D_Rf_addMeaning 39 rfl) rfl ?_
      refine v_iadd X (dk D_Rf_addMeaning 40 rfl) ?_
      rw [nI_add]
      refine v_bald X (dk D_Rf_addMeaning 41 rfl) rfl (hSu.lt (by decide)) (vp_in_nI (show p + j < 16385 by omega) (by decide)) ?_
      rw [nI_clamp (by omega), hz.row (by decide) (by decide), zg.row (by decide) (by decide), hys j (by omega)]
      refine v_bast X (dk D_Rf_addMeaning 42 rfl) rfl (hSu.lt (by decide)) (vp_in_nI (show (mT M).length + j < 16684 by omega) (by decide)) rfl ?_
      rw [nI_clamp (by omega), show (ys.getD j 0).toInt8.toInt32 = ys.getD j 0 from rw_byte hBB (r := 1018) (N := 16385) rfl hys _ (getD_mem (by omega))]
      refine v_iinc (v := nI (j + 1)) (lb := [some (.ref 1003), some (.int (nI p)), some (.int (nI ys.length)), some (.int (nI p2)), some (.int (nI zs.length)), some (.int (nI (j + 1)))]) X (dk D_Rf_addMeaning 43 rfl) rfl (nI_1 _) (by decide) rfl ?_
      refine v_goto (tgt := 47) X (dk D_Rf_addMeaning 44 rfl) (by decide) ?_
      exact ih (j + 1) _ (by omega) (hz.rI (by decide) (by decide)) (by have h9 := rwA_snoc (x := ys.getD j 0) hr; rw [Nat.zero_add, hpl] at h9; rw [take_s (by omega), ← List.append_assoc]; exact h9)
  refine v_aload_n X (dk D_Rf_addMeaning 0 rfl) rfl ?_
  refine v_getF X (dk D_Rf_addMeaning 1 rfl) F_Rf_34 rfl rfl (hS.lt (by decide)) (hS.2 1003 22) ?_
  refine v_aload_n X (dk D_Rf_addMeaning 2 rfl) rfl ?_
  refine v_getI X (dk D_Rf_addMeaning 3 rfl) F_Rf_188 rfl rfl (hS.lt (by decide)) ?_
  refine v_aload_n X (dk D_Rf_addMeaning 4 rfl) rfl ?_
  refine v_getI X (dk D_Rf_addMeaning 5 rfl) F_Rf_191 rfl rfl (hS.lt (by decide)) ?_
  rw [hM.2.1]
  refine v_iast X (dk D_Rf_addMeaning 6 rfl) rfl (hS.lt (by decide)) (by rw [hM.1]; exact vp_in_nI (show M.length < 340 by omega) (by decide)) ?_
  rw [hM.1, nI_clamp (by omega)]
  refine v_aload_n X (dk D_Rf_addMeaning 7 rfl) rfl ?_
  refine v_getF X (dk D_Rf_addMeaning 8 rfl) F_Rf_37 rfl rfl (hS.lt (by decide)) (hS.2 1003 23) ?_
  refine v_aload_n X (dk D_Rf_addMeaning 9 rfl) rfl ?_
  refine v_getI X (dk D_Rf_addMeaning 10 rfl) F_Rf_188 rfl rfl (hS.lt (by decide)) ?_
  refine v_iload_n X (dk D_Rf_addMeaning 11 rfl) rfl ?_
  refine v_iast X (dk D_Rf_addMeaning 12 rfl) rfl (hS.lt (by decide)) (by rw [(show gI (xI g 1011 M.length (nI (mT M).length)) 1003 21 = nI M.length from (gI_na (by decide)).trans hM.1)]; exact vp_in_nI (show M.length < 340 by omega) (by decide)) ?_
  rw [(show gI (xI g 1011 M.length (nI (mT M).length)) 1003 21 = nI M.length from (gI_na (by decide)).trans hM.1), nI_clamp (by omega)]
  refine v_aload_n X (dk D_Rf_addMeaning 13 rfl) rfl ?_
  refine v_getF X (dk D_Rf_addMeaning 14 rfl) F_Rf_40 rfl rfl (hS.lt (by decide)) (hS.2 1003 24) ?_
  refine v_aload_n X (dk D_Rf_addMeaning 15 rfl) rfl ?_
  refine v_getI X (dk D_Rf_addMeaning 16 rfl) F_Rf_188 rfl rfl (hS.lt (by decide)) ?_
  refine v_iload X (dk D_Rf_addMeaning 17 rfl) rfl ?_
  refine v_iast X (dk D_Rf_addMeaning 18 rfl) rfl (hS.lt (by decide)) (by rw [(show gI (xI (xI g 1011 M.length (nI (mT M).length)) 1012 M.length (nI ys.length)) 1003 21 = nI M.length from (gI_na (by decide)).trans ((gI_na (by decide)).trans hM.1))]; exact vp_in_nI (show M.length < 340 by omega) (by decide)) ?_
  rw [(show gI (xI (xI g 1011 M.length (nI (mT M).length)) 1012 M.length (nI ys.length)) 1003 21 = nI M.length from (gI_na (by decide)).trans ((gI_na (by decide)).trans hM.1)), nI_clamp (by omega)]
  refine v_aload_n X (dk D_Rf_addMeaning 19 rfl) rfl ?_
  refine v_getF X (dk D_Rf_addMeaning 20 rfl) F_Rf_43 rfl rfl (hS.lt (by decide)) (hS.2 1003 25) ?_
  refine v_aload_n X (dk D_Rf_addMeaning 21 rfl) rfl ?_
  refine v_getI X (dk D_Rf_addMeaning 22 rfl) F_Rf_188 rfl rfl (hS.lt (by decide)) ?_
  refine v_iconst (v := nI 0) X (dk D_Rf_addMeaning 23 rfl) (by decide) ?_
  refine v_iast X (dk D_Rf_addMeaning 24 rfl) rfl (hS.lt (by decide)) (by rw [(show gI (xI (xI (xI g 1011 M.length (nI (mT M).length)) 1012 M.length (nI ys.length)) 1013 M.length (nI zs.length)) 1003 21 = nI M.length from (gI_na (by decide)).trans ((gI_na (by decide)).trans ((gI_na (by decide)).trans hM.1)))]; exact vp_in_nI (show M.length < 340 by omega) (by decide)) ?_
  rw [(show gI (xI (xI (xI g 1011 M.length (nI (mT M).length)) 1012 M.length (nI ys.length)) 1013 M.length (nI zs.length)) 1003 21 = nI M.length from (gI_na (by decide)).trans ((gI_na (by decide)).trans ((gI_na (by decide)).trans hM.1))), nI_clamp (by omega)]
  refine v_iconst (v := nI 0) X (dk D_Rf_addMeaning 25 rfl) (by decide) ?_
  refine v_istore (lb := [some (.ref 1003), some (.int (nI p)), some (.int (nI ys.length)), some (.int (nI p2)), some (.int (nI zs.length)), some (.int (nI 0))]) X (dk D_Rf_addMeaning 26 rfl) (by decide) rfl ?_
  exact lpA ys.length 0 _ (by omega) (rs.rf _ _ _) (by rw [List.take_zero, List.append_nil]; exact fun j hj => (zg.row (by decide) (by decide) _).trans (hM.2.2.2.2.1 j hj))
