/-! the reference: a token is handled -/
theorem fnX_c {S : Mst} {f : Fr} {r : List Fr} (h : S.2.2.1 = (f :: r, true)) : fnX S = fnC f r S := by
  rw [fnX, if_pos (by rw [h]), h]
theorem opC_oV {tk : List Int32} {S : Mst} (h1 : ¬ 50 ≤ S.2.2.1.1.length) (h2 : ¬ 16384 < (hl S.2.2.1.1).length + tk.length) (h3 : atL S.1.1 (nI 0) = 40) : opC tk S = oV tk (ntT S.2.2.1.1) S := by
  rw [opC, if_neg h1, if_neg h2, if_neg (fun z => z h3), oV, (ntT_hl S.2.2.1.1).2.1]
theorem hR_c {kd : Int32} {tk : List Int32} {S : Mst} {tl : Int32} (hk : kd = 3) (hc : isCl S tk = true) : hR kd tk S tl = if ¬ (opC tk S).1 = 0 then ((opC tk S).1, (opC tk S).2, tl) else rnF (opC tk S).2 tl := by
  have e : hU kd tk S = opC tk S := by rw [hU, if_pos ⟨hk, hc⟩]
  rw [hR, e]
theorem XE.to {g w : mu_T} {fu : Nat} {X : Int32 × Mst × Int32} (h : XE g fu X) (z : ∀ k ∈ [2, 3, 4, 28, 29], gI w 1003 k = gI g 1003 k) (hk : ∃ k, k ≤ 8192 ∧ gI w 1003 37 = nI k) : XE w fu X := ⟨h.1, (z 2 (by decide)).trans h.2.1, (z 3 (by decide)).trans h.2.2.1, (z 4 (by decide)).trans h.2.2.2.1, (z 28 (by decide)).trans h.2.2.2.2.1, (z 29 (by decide)).trans h.2.2.2.2.2.1, hk⟩
theorem aX_q {S : Mst} {f : Fr} {e : Option Nat × List Int32} (hok : ∀ c, e.1 = some c → ∃ j, j < 17 ∧ c = 1048576 + j) : ¬ (aX S f e).1 = 32 := by
  obtain ⟨a, t⟩ := e
  cases a with
  | none => exact fun z => absurd z (show ¬ (0 : Int32) = 32 by decide)
  | some c =>
    obtain ⟨j, hj, rfl⟩ := hok c rfl
    show ¬ (bI (1048576 + j - 1048576) S f).1 = 32
    rw [Nat.add_sub_cancel_left]
    exact bI_32 hj
theorem mg_hd {M A B : List Me} {e : Me} {nm : List Int32} (h : M = A ++ e :: B) (he : e.1 = nm) (hB : ∀ x ∈ B, x.1 ≠ nm) : (mgP M nm).head? = some e.2 := by
  rw [h, mgP_top he hB]; rfl
theorem isCl_no {S : Mst} {tk : List Int32} (h : S.2.2.2.1.1 tk = []) : ¬ isCl S tk = true := by
  rw [isCl, h]; exact fun z => by cases z
theorem isCl_u {S : Mst} {tk t : List Int32} (h : (S.2.2.2.1.1 tk).head? = some (none, t)) : isCl S tk = true := by
  rw [isCl, h]
theorem isCl_b {S : Mst} {tk t : List Int32} {c : Nat} (h : (S.2.2.2.1.1 tk).head? = some (some c, t)) : isCl S tk = decide (c - 1048576 < 13 → atL S.1.1 (nI 0) = 40) := by
  rw [isCl, h]
theorem hU_n {kd : Int32} {tk : List Int32} {S : Mst} (h : ¬ (kd = 3 ∧ isCl S tk = true)) : hU kd tk S = match S.2.2.1.1 with
  | [] => dvA tk S
  | f :: r => hld tk f r S := by rw [hU, if_neg h]; rfl
theorem hR_e {kd : Int32} {tk : List Int32} {S : Mst} {tl e : Int32} {S2 : Mst} (h : hU kd tk S = (e, S2)) (he : ¬ e = 0) : hR kd tk S tl = (e, S2, tl) := by rw [hR, h, if_pos he]
theorem hR_0 {kd : Int32} {tk : List Int32} {S : Mst} {tl : Int32} {S2 : Mst} (h : hU kd tk S = (0, S2)) (hc : S2.2.2.1.2 = false) : hR kd tk S tl = rnD S2 := by rw [hR, h, if_neg (fun z => z rfl), rnF_f hc]
theorem aX_S {S S2 : Mst} {f : Fr} {e : Option Nat × List Int32} {r : List Fr} {F : List Int32} (h0 : (aX S f e).1 = 0) (hl : (aX S f e).2.2.length + (aX S f e).2.1.1.1.length ≤ 32768) : fnE r (aX S f e).1 (aX S f e).2.1 (aX S f e).2.2 = (0, (((aX S f e).2.2 ++ (aX S f e).2.1.1.1, (aX S f e).2.1.1.2), (aX S f e).2.1.2.1, (r, false), (aX S f e).2.1.2.2.2)) := by
  rw [fnE, if_pos h0, if_pos hl]
theorem HP_A {g w : mu_T} {fu : Nat} {S : Mst} {kd : Int32} {tk : List Int32} {f : Fr} {r : List Fr} (hF : RF g fu S) (hne : ∀ f ∈ S.2.2.1.1, f.2.1 ≠ []) (hfs : S.2.2.1.1 = f :: r) (hnc : ¬ (kd = 3 ∧ isCl S tk = true)) (a1 : rs g w [2, 3, 36] [1018]) (a2 : (hl (f :: r)).length + tk.length ≤ 16384 → gI w 1003 2 = 0 ∧ AG w (hl (f :: r) ++ tk)) (a3 : ¬ (hl (f :: r)).length + tk.length ≤ 16384 → gI w 1003 2 = 40 ∧ gI w 1003 3 = gI g 1003 10) : HP w fu S kd tk := by
  obtain ⟨hZ, hA, hcm, hok, hqn, hV, he⟩ := hF
  have hu : hU kd tk S = hld tk f r S := by rw [hU_n hnc, hfs]
  have hne1 : f.2.1 ≠ [] := hne f (by rw [hfs]; exact List.mem_cons_self ..)
  have hA2 : AR g (f :: r) := by rw [← hfs]; exact hA
  rw [hld] at hu
  by_cases c : (hl (f :: r)).length + tk.length ≤ 16384
  · rw [if_pos c] at hu
    obtain ⟨p1, p2, p3⟩ := apL_all (t := tk) hne1
    refine ⟨fun _ => ⟨sF S ((f.1, apL f.2.1 tk, f.2.2.1, true) :: r) false, ⟨hZ.rs a1 (by decide) (by decide), AR_put _ _ hA2 hne1 a1 (a2 c).2, rfl, hok, hqn, hV.rs a1 (by decide) (by decide), (a2 c).1⟩, ?_, Nat.le_refl _, fun tl => hR_0 hu rfl⟩, fun z => absurd (a2 c).1 z⟩
    rw [hfs]
    exact ⟨_, rfl, p1, by rw [p2, List.length_append]; omega, fun _ => by rw [p2, List.length_append]⟩
  · rw [if_neg c] at hu
    refine ⟨fun z => by rw [(a3 c).1] at z; exact absurd z (by decide), fun _ tl => ?_⟩
    rw [hR_e hu (by decide)]
    exact XE_of ⟨(a3 c).1, (a3 c).2.trans hZ.2.1.2.2.2.2.2.1, (a1.2 4 (by decide)).trans hZ.2.1.2.2.2.2.2.2.2.1, (a1.2 28 (by decide)).trans hZ.2.2.2.2.1.cnt.1, (a1.2 29 (by decide)).trans hZ.2.2.2.2.1.cnt.2⟩ (by decide) (by decide) ⟨_, hA.2.2.1, (a1.2 37 (by decide)).trans hA.2.1⟩
theorem HP_N {g : mu_T} {fu : Nat} {S : Mst} {kd : Int32} {tk : List Int32} (hF : RF g fu S) (hfs : S.2.2.1.1 = []) (hnc : ¬ (kd = 3 ∧ isCl S tk = true)) (hcu : S.2.2.2.2.1 = -1) : HP g fu S kd tk := by
  have hu : hU kd tk S = (0, S) := by
    rw [hU_n hnc, hfs]
    show dvA tk S = _
    rw [dvA, if_pos (Or.inl hcu), if_pos (Or.inl hcu)]
  exact ⟨fun _ => ⟨S, hF, by rw [hfs]; rfl, Nat.le_refl _, fun tl => hR_0 hu hF.2.2.1⟩, fun z => absurd hF.2.2.2.2.2.2 z⟩
theorem HP_D {g w : mu_T} {fu : Nat} {S : Mst} {kd : Int32} {tk : List Int32} {c9 : Nat} (hF : RF g fu S) (hfs : S.2.2.1.1 = []) (hnc : ¬ (kd = 3 ∧ isCl S tk = true)) (hcu : S.2.2.2.2.1 = nI c9) (hc9 : c9 < 10) (a1 : rs g w [2, 3, 32] [1016, 1017]) (a2 : dvt S.2.2.2.2.2 + tk.length ≤ 32768 → gI w 1003 2 = 0 ∧ DVR w (nI c9) (va_up S.2.2.2.2.2 c9 (S.2.2.2.2.2 c9 ++ tk))) (a3 : ¬ dvt S.2.2.2.2.2 + tk.length ≤ 32768 → gI w 1003 2 = 40 ∧ gI w 1003 3 = gI g 1003 10) : HP w fu S kd tk := by
  obtain ⟨hZ, hA, hcm, hok, hqn, hV, he⟩ := hF
  have hn1 : ¬ S.2.2.2.2.1 = -1 := by rw [hcu]; exact fun z => absurd (nI_pos (n := c9) (by omega)) (by rw [z]; decide)
  have hcl : S.2.2.2.2.1.toNatClampNeg = c9 := by rw [hcu, nI_clamp (by omega)]
  have hu : hU kd tk S = dvA tk S := by rw [hU_n hnc, hfs]
  rw [dvA, hcl] at hu
  by_cases c : dvt S.2.2.2.2.2 + tk.length ≤ 32768
  · rw [if_pos (Or.inr c), if_neg (fun z => z.elim hn1 (fun y => y c))] at hu
    refine ⟨fun _ => ⟨(S.1, S.2.1, S.2.2.1, S.2.2.2.1, (S.2.2.2.2.1, va_up S.2.2.2.2.2 c9 (S.2.2.2.2.2 c9 ++ tk))), ⟨⟨a1.S hZ.1, hZ.2.1.rs a1 (by decide) (by decide), hZ.2.2.1.rs a1 (by decide) (by decide) (by decide) (by decide), hZ.2.2.2.1, hZ.2.2.2.2.1.rs a1 (by decide) (by decide), ?_⟩, hA.rs a1 (by decide) (by decide) (by decide), hcm, hok, hqn, hV.rs a1 (by decide) (by decide), (a2 c).1⟩, ?_, Nat.le_refl _, fun tl => hR_0 hu hcm⟩, fun z => absurd (a2 c).1 z⟩
    · show DVR w S.2.2.2.2.1 _
      rw [hcu]; exact (a2 c).2
    · show cL S.2.2.1.1 S.2.2.1.1 kd tk
      rw [hfs]; rfl
  · rw [if_neg (fun z => z.elim hn1 c), if_pos (Or.inr c)] at hu
    refine ⟨fun z => by rw [(a3 c).1] at z; exact absurd z (by decide), fun _ tl => ?_⟩
    rw [hR_e hu (by decide)]
    exact XE_of ⟨(a3 c).1, (a3 c).2.trans hZ.2.1.2.2.2.2.2.1, (a1.2 4 (by decide)).trans hZ.2.1.2.2.2.2.2.2.2.1, (a1.2 28 (by decide)).trans hZ.2.2.2.2.1.cnt.1, (a1.2 29 (by decide)).trans hZ.2.2.2.2.1.cnt.2⟩ (by decide) (by decide) ⟨_, hA.2.2.1, (a1.2 37 (by decide)).trans hA.2.1⟩
set_option maxHeartbeats 4000000 in
set_option maxRecDepth 100000 in
theorem r_handle1 (l : Launch) (q : ev_T) {c D : Nat} (hRa : c < 50 → ∃ d, d + 1 ≤ D ∧ RAC l q (c + 1) d) (hD67 : 67 ≤ D) : HC l q c D := by
  intro g fu S kd tk hF hcl0 hne hTK hkd hFO
  obtain ⟨hZ, hA, hcm, hok, hqn, hV, he⟩ := hF
  have hF : RF g fu S := ⟨hZ, hA, hcm, hok, hqn, hV, he⟩
  have hS := hZ.1
  have hD := hZ.2.2.2.2.2
  have hna9 := hA.2.2.1
  have hfl50 := hA.2.2.2.2.1
  refine Ctr.mk (lb := [some (.ref 1003), some (.int (icN S.2.2.1.1)), none, none, none, none, none, none]) (by decide +kernel) (Nat.le_of_ble_eq_true rfl) rfl rfl ?_
  intro pp ee ss mm aa bb mt cd X hrt hlk hnm
  have put : ¬ (kd = 3 ∧ isCl S tk = true) → ∀ (mv pv : Int32), Vv pp l ee (rmT D 0 0) ss mm aa bb mt cd 8 q (MQ bb (Qw q (fun v w => v = none ∧ rs g w.2.2 [2, 3, 4, 8, 9, 10, 11, 13, 15, 16, 18, 20, 21, 27, 28, 29, 32, 33, 34, 36, 37, 39, 40, 41, 42, 43, 44] [1006, 1007, 1008, 1009, 1010, 1011, 1012, 1013, 1014, 1015, 1016, 1017, 1018, 1019, 1020, 1021] ∧ HP w.2.2 fu S kd tk)) aa ss 0 0 (fun a => q.1 ≤ a)) 70 [some (.ref 1003), some (.int (icN S.2.2.1.1)), some (.int mv), some (.int pv), none, none, none, none] [] (0, 0, g) := by
    intro hnc mv pv
    cases hfs : S.2.2.1.1 with
    | cons f r =>
      refine v_aload_n X (dk D_Rf_handle 38 rfl) rfl ?_
      refine v_iload_n X (dk D_Rf_handle 39 rfl) rfl ?_
      refine v_invV (As := [.int 1]) (st := []) X (r_putTokenA l q (xs := hl (f :: r)) hS (by have := hA.1; rw [hfs] at this; exact this) hTK he) (dk D_Rf_handle 40 rfl) G_Rf_236 K_Rf_putToken V_Rf_putToken rfl rfl (hS.lt (by decide)) rfl rfl (Nat.le_of_ble_eq_true rfl) (by dsimp only [rmT]; omega) (by dsimp only [rmT]; omega) (Nat.le_of_ble_eq_true rfl) (Nat.le_of_ble_eq_true rfl) ?_
      rintro v w1 ⟨rfl, a1, a2, a3⟩
      show Vv _ _ _ _ _ _ _ _ _ _ _ _ _ _ _ [] (0, 0, w1.2.2)
      exact v_vret X hlk hrt (dk D_Rf_handle 41 rfl) (by exact ⟨rfl, a1.mono (by decide) (by decide), HP_A hF hne hfs hnc a1 a2 a3⟩)
    | nil =>
      rcases hD.2.1 with hcu | ⟨c9, hc9, hcu⟩
      · skip
        refine v_aload_n X (dk D_Rf_handle 38 rfl) rfl ?_
        refine v_iload_n X (dk D_Rf_handle 39 rfl) rfl ?_
        refine v_invV (As := [.int 0]) (st := []) X (r_putTokenN l q (D := S.2.2.2.2.2) hS (by rw [← hcu]; exact hD) hTK he) (dk D_Rf_handle 40 rfl) G_Rf_236 K_Rf_putToken V_Rf_putToken rfl rfl (hS.lt (by decide)) rfl rfl (Nat.le_of_ble_eq_true rfl) (by dsimp only [rmT]; omega) (by dsimp only [rmT]; omega) (Nat.le_of_ble_eq_true rfl) (Nat.le_of_ble_eq_true rfl) ?_
        rintro v w1 ⟨rfl, hw⟩
        show Vv _ _ _ _ _ _ _ _ _ _ _ _ _ _ _ [] (0, 0, w1.2.2)
        exact v_vret X hlk hrt (dk D_Rf_handle 41 rfl) (by rw [hw]; exact ⟨rfl, rs.rf g _ _, HP_N hF hfs hnc hcu⟩)
      · skip
        refine v_aload_n X (dk D_Rf_handle 38 rfl) rfl ?_
        refine v_iload_n X (dk D_Rf_handle 39 rfl) rfl ?_
        refine v_invV (As := [.int 0]) (st := []) X (r_putTokenD l q (c := c9) hS (by rw [← hcu]; exact hD) hc9 hTK he) (dk D_Rf_handle 40 rfl) G_Rf_236 K_Rf_putToken V_Rf_putToken rfl rfl (hS.lt (by decide)) rfl rfl (Nat.le_of_ble_eq_true rfl) (by dsimp only [rmT]; omega) (by dsimp only [rmT]; omega) (Nat.le_of_ble_eq_true rfl) (Nat.le_of_ble_eq_true rfl) ?_
        rintro v w1 ⟨rfl, a1, a2, a3⟩
        show Vv _ _ _ _ _ _ _ _ _ _ _ _ _ _ _ [] (0, 0, w1.2.2)
        exact v_vret X hlk hrt (dk D_Rf_handle 41 rfl) (by exact ⟨rfl, a1.mono (by decide) (by decide), HP_D hF hfs hnc hcu hc9 a1 a2 a3⟩)
  have fE : ∀ (mv pv : Int32) (h : mu_T), rs g h [2, 3, 4, 8, 9, 10, 11, 13, 15, 16, 18, 20, 21, 27, 28, 29, 32, 33, 34, 36, 37, 39, 40, 41, 42, 43, 44] [1006, 1007, 1008, 1009, 1010, 1011, 1012, 1013, 1014, 1015, 1016, 1017, 1018, 1019, 1020, 1021] → ¬ gI h 1003 2 = 0 → (∀ tl, XE h fu (hR kd tk S tl)) → Vv pp l ee (rmT D 0 0) ss mm aa bb mt cd 8 q (MQ bb (Qw q (fun v w => v = none ∧ rs g w.2.2 [2, 3, 4, 8, 9, 10, 11, 13, 15, 16, 18, 20, 21, 27, 28, 29, 32, 33, 34, 36, 37, 39, 40, 41, 42, 43, 44] [1006, 1007, 1008, 1009, 1010, 1011, 1012, 1013, 1014, 1015, 1016, 1017, 1018, 1019, 1020, 1021] ∧ HP w.2.2 fu S kd tk)) aa ss 0 0 (fun a => q.1 ≤ a)) 191 [some (.ref 1003), some (.int (icN S.2.2.1.1)), some (.int mv), some (.int pv), some (.int (nI (hl S.2.2.1.1).length)), some (.int (nI tk.length)), some (.int (nI (na S.2.2.1.1))), none] [] (0, 0, h) := by
    intro mv pv h hs hne9 hX
    have hSh := hs.S hS
    have z3 : rs h (xI (xI (xI h 1003 36 (nI (hl S.2.2.1.1).length)) 1003 37 (nI (na S.2.2.1.1))) 1003 34 (gI h 1003 34 - 1)) [34, 36, 37] [] := (((rs.rf h _ _).fI (by decide)).fI (by decide)).fI (by decide)
    refine v_aload_n X (dk D_Rf_handle 100 rfl) rfl ?_
    refine v_iload X (dk D_Rf_handle 101 rfl) rfl ?_
    refine v_putI X (dk D_Rf_handle 102 rfl) F_Rf_226 CK_Rf rfl rfl (hSh.lt (by decide)) rfl rfl ?_
    refine v_aload_n X (dk D_Rf_handle 103 rfl) rfl ?_
    refine v_iload X (dk D_Rf_handle 104 rfl) rfl ?_
    refine v_putI X (dk D_Rf_handle 105 rfl) F_Rf_243 CK_Rf rfl rfl (hSh.lt (by decide)) rfl rfl ?_
    refine v_aload_n X (dk D_Rf_handle 106 rfl) rfl ?_
    refine v_dup X (dk D_Rf_handle 107 rfl) rfl ?_
    refine v_getI X (dk D_Rf_handle 108 rfl) F_Rf_240 rfl rfl (hSh.lt (by decide)) ?_
    rw [gI_nk (by decide), gI_nk (by decide)]
    refine v_iconst (v := 1) X (dk D_Rf_handle 109 rfl) (by decide) ?_
    refine v_isub X (dk D_Rf_handle 110 rfl) ?_
    refine v_putI X (dk D_Rf_handle 111 rfl) F_Rf_240 CK_Rf rfl rfl (hSh.lt (by decide)) rfl rfl ?_
    refine v_aload_n X (dk D_Rf_handle 112 rfl) rfl ?_
    refine v_invV (As := []) (st := []) X (r_putBackE l q (g := (xI (xI (xI h 1003 36 (nI (hl S.2.2.1.1).length)) 1003 37 (nI (na S.2.2.1.1))) 1003 34 (gI h 1003 34 - 1))) (z3.S hSh) (by rw [z3.2 2 (by decide)]; exact hne9)) (dk D_Rf_handle 113 rfl) G_Rf_253 K_Rf_putBack V_Rf_putBack rfl rfl ((z3.S hSh).lt (by decide)) rfl rfl (Nat.le_of_ble_eq_true rfl) (by dsimp only [rmT]; omega) (by dsimp only [rmT]; omega) (Nat.le_of_ble_eq_true rfl) (Nat.le_of_ble_eq_true rfl) ?_
    rintro v w9 ⟨rfl, y1, y2⟩
    show Vv _ _ _ _ _ _ _ _ _ _ _ _ _ _ _ [] (0, 0, w9.2.2)
    exact v_vret X hlk hrt (dk D_Rf_handle 114 rfl) ⟨rfl, (hs.tr (z3.mono (by decide) (by decide))).tr (y1.mono (by decide) (by decide)), fun z => absurd z (by rw [y1.2 2 (by decide), z3.2 2 (by decide)]; exact hne9), fun _ tl => (hX tl).to (fun k hk => by rw [y1.2 k (by revert k; decide), z3.2 k (by revert k; decide)]) ⟨_, hna9, (y1.2 37 (by decide)).trans ((gI_nk (by decide)).trans (gI_eq _ _ _ _))⟩⟩
  have fS : cL S.2.2.1.1 (ntT S.2.2.1.1) kd tk → ∀ (mv pv : Int32) (S4 : Mst) (F : List Int32) (h : mu_T), rs g h [2, 3, 4, 8, 9, 10, 11, 13, 15, 16, 18, 20, 21, 27, 28, 29, 32, 33, 34, 36, 37, 39, 40, 41, 42, 43, 44] [1006, 1007, 1008, 1009, 1010, 1011, 1012, 1013, 1014, 1015, 1016, 1017, 1018, 1019, 1020, 1021] → RZ h fu S4 → GV h F → F.length + S4.1.1.length ≤ 32768 → gI h 1003 2 = 0 → rwA h 1018 0 (hl S.2.2.1.1) → stS h (ntT S.2.2.1.1) → gI h 1003 34 = nI (S.2.2.1.1.length + 1) → OKP S4.2.2.2.1.1 → QN S4 → S4.1.2.2.1 ≤ S.1.2.2.1 → (∀ tl, hR kd tk S tl = rnD ((F ++ S4.1.1, S4.1.2), S4.2.1, (ntT S.2.2.1.1, false), S4.2.2.2)) → Vv pp l ee (rmT D 0 0) ss mm aa bb mt cd 8 q (MQ bb (Qw q (fun v w => v = none ∧ rs g w.2.2 [2, 3, 4, 8, 9, 10, 11, 13, 15, 16, 18, 20, 21, 27, 28, 29, 32, 33, 34, 36, 37, 39, 40, 41, 42, 43, 44] [1006, 1007, 1008, 1009, 1010, 1011, 1012, 1013, 1014, 1015, 1016, 1017, 1018, 1019, 1020, 1021] ∧ HP w.2.2 fu S kd tk)) aa ss 0 0 (fun a => q.1 ≤ a)) 191 [some (.ref 1003), some (.int (icN S.2.2.1.1)), some (.int mv), some (.int pv), some (.int (nI (hl S.2.2.1.1).length)), some (.int (nI tk.length)), some (.int (nI (na S.2.2.1.1))), none] [] (0, 0, h) := by
    intro hcL mv pv S4 F h hs hZ4 hG4 hlF he4 hrw hst h34 hok4 hqn4 hfu4 hX
    have hSh := hs.S hS
    have z3 : rs h (xI (xI (xI h 1003 36 (nI (hl S.2.2.1.1).length)) 1003 37 (nI (na S.2.2.1.1))) 1003 34 (gI h 1003 34 - 1)) [34, 36, 37] [] := (((rs.rf h _ _).fI (by decide)).fI (by decide)).fI (by decide)
    have hAr : AR (xI (xI (xI h 1003 36 (nI (hl S.2.2.1.1).length)) 1003 37 (nI (na S.2.2.1.1))) 1003 34 (gI h 1003 34 - 1)) (ntT S.2.2.1.1) := by
      obtain ⟨e1, e2, e3⟩ := ntT_hl S.2.2.1.1
      refine ⟨⟨by rw [e1, gI_nk (by decide), gI_nk (by decide), gI_eq], by rw [e1]; exact fun j hj => (z3.row (by decide) (by decide) _).trans (hrw j hj), by rw [e1]; exact hA.1.2.2⟩, by rw [e2, gI_nk (by decide), gI_eq], by rw [e2]; exact hA.2.2.1, ?_, by rw [e3]; exact hA.2.2.2.2.1, stS_of hst (fun j _ => z3.row (by decide) (by decide) j)⟩
      rw [gI_eq, h34, e3]
      exact pk_sub (a := S.2.2.1.1.length + 1) (b := 1) (by omega)
    refine v_aload_n X (dk D_Rf_handle 100 rfl) rfl ?_
    refine v_iload X (dk D_Rf_handle 101 rfl) rfl ?_
    refine v_putI X (dk D_Rf_handle 102 rfl) F_Rf_226 CK_Rf rfl rfl (hSh.lt (by decide)) rfl rfl ?_
    refine v_aload_n X (dk D_Rf_handle 103 rfl) rfl ?_
    refine v_iload X (dk D_Rf_handle 104 rfl) rfl ?_
    refine v_putI X (dk D_Rf_handle 105 rfl) F_Rf_243 CK_Rf rfl rfl (hSh.lt (by decide)) rfl rfl ?_
    refine v_aload_n X (dk D_Rf_handle 106 rfl) rfl ?_
    refine v_dup X (dk D_Rf_handle 107 rfl) rfl ?_
    refine v_getI X (dk D_Rf_handle 108 rfl) F_Rf_240 rfl rfl (hSh.lt (by decide)) ?_
    rw [gI_nk (by decide), gI_nk (by decide)]
    refine v_iconst (v := 1) X (dk D_Rf_handle 109 rfl) (by decide) ?_
    refine v_isub X (dk D_Rf_handle 110 rfl) ?_
    refine v_putI X (dk D_Rf_handle 111 rfl) F_Rf_240 CK_Rf rfl rfl (hSh.lt (by decide)) rfl rfl ?_
    refine v_aload_n X (dk D_Rf_handle 112 rfl) rfl ?_
    refine v_invV (As := []) (st := []) X (r_putBack l q (g := (xI (xI (xI h 1003 36 (nI (hl S.2.2.1.1).length)) 1003 37 (nI (na S.2.2.1.1))) 1003 34 (gI h 1003 34 - 1))) (fu := fu) (I := S4.1) (F := F) (z3.S hSh) (hZ4.2.1.rs z3 (by decide) (by decide)) ((z3.2 2 (by decide)).trans he4) (hG4.rs z3 (by decide) (by decide)) hlF) (dk D_Rf_handle 113 rfl) G_Rf_253 K_Rf_putBack V_Rf_putBack rfl rfl ((z3.S hSh).lt (by decide)) rfl rfl (Nat.le_of_ble_eq_true rfl) (by dsimp only [rmT]; omega) (by dsimp only [rmT]; omega) (Nat.le_of_ble_eq_true rfl) (Nat.le_of_ble_eq_true rfl) ?_
    rintro v w9 ⟨rfl, y1, y2, y3⟩
    show Vv _ _ _ _ _ _ _ _ _ _ _ _ _ _ _ [] (0, 0, w9.2.2)
    exact v_vret X hlk hrt (dk D_Rf_handle 114 rfl) ⟨rfl, (hs.tr (z3.mono (by decide) (by decide))).tr (y1.mono (by decide) (by decide)), fun _ => ⟨((F ++ S4.1.1, S4.1.2), S4.2.1, (ntT S.2.2.1.1, false), S4.2.2.2), ⟨⟨y1.S (z3.S hSh), y2, (hZ4.2.2.1.rs z3 (by decide) (by decide) (by decide) (by decide)).rs y1 (by decide) (by decide) (by decide) (by decide), hZ4.2.2.2.1, (hZ4.2.2.2.2.1.rs z3 (by decide) (by decide)).rs y1 (by decide) (by decide), (hZ4.2.2.2.2.2.rs z3 (by decide) (by decide) (by decide) (by decide)).rs y1 (by decide) (by decide) (by decide) (by decide)⟩, hAr.rs y1 (by decide) (by decide) (by decide), rfl, hok4, hqn4, y3, (y1.2 2 (by decide)).trans ((z3.2 2 (by decide)).trans he4)⟩, hcL, hfu4, hX⟩, fun z => absurd ((y1.2 2 (by decide)).trans ((z3.2 2 (by decide)).trans he4)) z⟩
  have gE : ∀ (mv pv : Int32) (h : mu_T), rs g h [2, 3, 4, 8, 9, 10, 11, 13, 15, 16, 18, 20, 21, 27, 28, 29, 32, 33, 34, 36, 37, 39, 40, 41, 42, 43, 44] [1006, 1007, 1008, 1009, 1010, 1011, 1012, 1013, 1014, 1015, 1016, 1017, 1018, 1019, 1020, 1021] → ¬ gI h 1003 2 = 0 → (∀ tl, XE h fu (hR kd tk S tl)) → Vv pp l ee (rmT D 0 0) ss mm aa bb mt cd 8 q (MQ bb (Qw q (fun v w => v = none ∧ rs g w.2.2 [2, 3, 4, 8, 9, 10, 11, 13, 15, 16, 18, 20, 21, 27, 28, 29, 32, 33, 34, 36, 37, 39, 40, 41, 42, 43, 44] [1006, 1007, 1008, 1009, 1010, 1011, 1012, 1013, 1014, 1015, 1016, 1017, 1018, 1019, 1020, 1021] ∧ HP w.2.2 fu S kd tk)) aa ss 0 0 (fun a => q.1 ≤ a)) 140 [some (.ref 1003), some (.int (icN S.2.2.1.1)), some (.int mv), some (.int pv), some (.int (nI (hl S.2.2.1.1).length)), some (.int (nI tk.length)), some (.int (nI (na S.2.2.1.1))), none] [] (0, 0, h) := by
    intro mv pv h hs hne9 hX
    have hSh := hs.S hS
    obtain ⟨k9, hk9, e37⟩ := (hX 0).2.2.2.2.2.2
    have z9 : rs h (xI h 1019 k9 (gI h 1003 36)) [] [1019] := (rs.rf h _ _).rI (by decide) (by decide)
    refine v_aload_n X (dk D_Rf_handle 75 rfl) rfl ?_
    refine v_getF X (dk D_Rf_handle 76 rfl) F_Rf_59 rfl rfl (hSh.lt (by decide)) (hSh.2 1003 38) ?_
    refine v_aload_n X (dk D_Rf_handle 77 rfl) rfl ?_
    refine v_getI X (dk D_Rf_handle 78 rfl) F_Rf_243 rfl rfl (hSh.lt (by decide)) ?_
    rw [e37]
    refine v_aload_n X (dk D_Rf_handle 79 rfl) rfl ?_
    refine v_getI X (dk D_Rf_handle 80 rfl) F_Rf_226 rfl rfl (hSh.lt (by decide)) ?_
    refine v_iast X (dk D_Rf_handle 81 rfl) rfl (hSh.lt (by decide)) (vp_in_nI (show k9 < 8300 by omega) (by decide)) ?_
    rw [nI_clamp (by omega)]
    refine v_aload_n X (dk D_Rf_handle 82 rfl) rfl ?_
    refine v_getI X (dk D_Rf_handle 83 rfl) F_Rf_72 rfl rfl (hSh.lt (by decide)) ?_
    refine v_if_ne (tgt := 191) X (dk D_Rf_handle 84 rfl) (by decide) (fun _ => ?_) (fun c157 => absurd c157 (by rw [gI_na (by decide)]; exact hne9))
    exact fE mv pv (xI h 1019 k9 (gI h 1003 36)) (hs.tr (z9.mono (by decide) (by decide))) (by rw [gI_na (by decide)]; exact hne9) (fun tl => (hX tl).to (fun k _ => z9.2 k (by simp)) ⟨k9, hk9, (z9.2 37 (by decide)).trans e37⟩)
  have gS : kd = 3 → cL S.2.2.1.1 (ntT S.2.2.1.1) kd tk → ∀ (mv pv : Int32) (S3 : Mst) (f3 : Fr) (r : List Fr) (h : mu_T), r = ntT S.2.2.1.1 → rs g h [2, 3, 4, 8, 9, 10, 11, 13, 15, 16, 18, 20, 21, 27, 28, 29, 32, 33, 34, 36, 37, 39, 40, 41, 42, 43, 44] [1006, 1007, 1008, 1009, 1010, 1011, 1012, 1013, 1014, 1015, 1016, 1017, 1018, 1019, 1020, 1021] → S3.2.2.1 = (f3 :: r, true) → f3.1 = tk → RZ h fu S3 → AR h (f3 :: r) → OKP S3.2.2.2.1.1 → QN S3 → GV h [] → gI h 1003 2 = 0 → S3.1.2.2.1 ≤ S.1.2.2.1 → (∀ tl, ∃ tl3, hR kd tk S tl = rnF S3 tl3) → Vv pp l ee (rmT D 0 0) ss mm aa bb mt cd 8 q (MQ bb (Qw q (fun v w => v = none ∧ rs g w.2.2 [2, 3, 4, 8, 9, 10, 11, 13, 15, 16, 18, 20, 21, 27, 28, 29, 32, 33, 34, 36, 37, 39, 40, 41, 42, 43, 44] [1006, 1007, 1008, 1009, 1010, 1011, 1012, 1013, 1014, 1015, 1016, 1017, 1018, 1019, 1020, 1021] ∧ HP w.2.2 fu S kd tk)) aa ss 0 0 (fun a => q.1 ≤ a)) 140 [some (.ref 1003), some (.int (icN S.2.2.1.1)), some (.int mv), some (.int pv), some (.int (nI (hl S.2.2.1.1).length)), some (.int (nI tk.length)), some (.int (nI (na S.2.2.1.1))), none] [] (0, 0, h) := by
    intro hk3 hcL mv pv S3 f3 r h hrr hs hc3 h3n hZ3 hA3 hok3 hqn3 hV3 he3 hfu3 hX
    have hSh := hs.S hS
    have hn3 := hA3.2.2.1
    have z2 : rs h (xI h 1019 (na (f3 :: r)) (nI (hl (f3 :: r)).length)) [] [1019] := (rs.rf h _ _).rI (by decide) (by decide)
    have hs2 := hs.tr (z2.mono (by decide) (by decide))
    have hS2 := hs2.S hS
    have hZ2 : RZ (xI h 1019 (na (f3 :: r)) (nI (hl (f3 :: r)).length)) fu S3 := hZ3.rs z2 (by decide) (by decide)
    have hV2 := hV3.rs z2 (by decide) (by decide)
    have hA2 : AR (xI h 1019 (na (f3 :: r)) (nI (hl (f3 :: r)).length)) (f3 :: r) := by
      obtain ⟨p1, p2, p3, p4, p5, p6⟩ := hA3
      exact ⟨p1.rs z2 (by decide) (by decide), (z2.2 37 (by decide)).trans p2, p3, (z2.2 34 (by decide)).trans p4, p5, stS_of p6 (fun j hj => gI_nk (by omega))⟩
    have hC2 : AC (xI h 1019 (na (f3 :: r)) (nI (hl (f3 :: r)).length)) f3 r := ⟨hA2, gI_eq _ _ _ _⟩
    have hnl : (hl r).length + f3.1.length ≤ 16384 := by
      have := hA2.1.2.2
      rw [hl, List.length_append, List.length_append] at this
      omega
    have hrwr : ∀ {w : mu_T}, rwA w 1018 0 (hl (f3 :: r)) → rwA w 1018 0 (hl S.2.2.1.1) := fun hw => by
      rw [show hl S.2.2.1.1 = hl r from by rw [hrr]; exact (ntT_hl _).1.symm]
      exact (rwA_app.mp hw).1
    obtain ⟨M, hM, hbd, hdf, hdb, hSe⟩ := hZ2.2.2.2.2.1
    have hfx := fnX_c hc3
    have hlen : S.2.2.1.1.length = r.length := by rw [hrr]; exact (ntT_hl _).2.2.symm
    have h342 : gI (xI h 1019 (na (f3 :: r)) (nI (hl (f3 :: r)).length)) 1003 34 = nI (S.2.2.1.1.length + 1) := by rw [hlen]; exact hA2.2.2.2.1
    have hq9 := fnX_q hok3 hqn3
    rw [hfx] at hq9
    have hrl : hl r = hl S.2.2.1.1 := by rw [hrr]; exact (ntT_hl _).1
    have hrn : na r = na S.2.2.1.1 := by rw [hrr]; exact (ntT_hl _).2.1
    have hnam : rwA (xI h 1019 (na (f3 :: r)) (nI (hl (f3 :: r)).length)) 1018 (hl S.2.2.1.1).length tk := by rw [← hrl, ← h3n]; exact hC2.1.1.nam
    rcases tp_or M tk with ⟨hno, htp⟩ | ⟨A, e, B, hMA, heq, hB, htp⟩
    · have hfx0 : fnC f3 r S3 = (0, (([] ++ S3.1.1, S3.1.2), S3.2.1, (r, false), S3.2.2.2)) := by
        rw [fnC, show S3.2.2.2.1.1 f3.1 = [] from by rw [hSe, h3n]; exact mgP_no hno]
        show fnE r 0 S3 [] = _
        rw [fnE, if_pos rfl, if_pos (by have := hZ2.2.1.2.1; show 0 + _ ≤ 32768; omega)]
      rw [hfx0] at hfx
      have hrwr := hrwr hA2.1.2.1
      have hstr : stS (xI h 1019 (na (f3 :: r)) (nI (hl (f3 :: r)).length)) (ntT S.2.2.1.1) := by rw [← hrr]; exact hA2.2.2.2.2.2.2
      refine v_aload_n X (dk D_Rf_handle 75 rfl) rfl ?_
      refine v_getF X (dk D_Rf_handle 76 rfl) F_Rf_59 rfl rfl (hSh.lt (by decide)) (hSh.2 1003 38) ?_
      refine v_aload_n X (dk D_Rf_handle 77 rfl) rfl ?_
      refine v_getI X (dk D_Rf_handle 78 rfl) F_Rf_243 rfl rfl (hSh.lt (by decide)) ?_
      rw [hA3.2.1]
      refine v_aload_n X (dk D_Rf_handle 79 rfl) rfl ?_
      refine v_getI X (dk D_Rf_handle 80 rfl) F_Rf_226 rfl rfl (hSh.lt (by decide)) ?_
      rw [hA3.1.1]
      refine v_iast X (dk D_Rf_handle 81 rfl) rfl (hSh.lt (by decide)) (vp_in_nI (show (na (f3 :: r)) < 8300 by omega) (by decide)) ?_
      rw [nI_clamp (by omega)]
      refine v_aload_n X (dk D_Rf_handle 82 rfl) rfl ?_
      refine v_getI X (dk D_Rf_handle 83 rfl) F_Rf_72 rfl rfl (hS2.lt (by decide)) ?_
      refine v_if_ne (tgt := 191) X (dk D_Rf_handle 84 rfl) (by decide) (fun c157 => absurd ((z2.2 2 (by decide)).trans he3) c157) (fun _ => ?_)
      refine v_aload_n X (dk D_Rf_handle 85 rfl) rfl ?_
      refine v_aload_n X (dk D_Rf_handle 86 rfl) rfl ?_
      refine v_getF X (dk D_Rf_handle 87 rfl) F_Rf_56 rfl rfl (hS2.lt (by decide)) (hS2.2 1003 35) ?_
      refine v_iload X (dk D_Rf_handle 88 rfl) rfl ?_
      refine v_iload X (dk D_Rf_handle 89 rfl) rfl ?_
      refine v_invV (As := [.ref 1018, .int (nI (hl S.2.2.1.1).length), .int (nI tk.length)]) (st := []) X (r_top l q (r := 1018) (N := 16385) (p := (hl S.2.2.1.1).length) (ys := tk) hS2 hM rfl (hS2.lt (by decide)) (by decide) (by have := hnl; rw [hrl, h3n] at this; omega) hnam) (dk D_Rf_handle 90 rfl) G_Rf_232 K_Rf_top V_Rf_top rfl rfl (hS2.lt (by decide)) rfl rfl (Nat.le_of_ble_eq_true rfl) (by dsimp only [rmT]; omega) (by dsimp only [rmT]; omega) (Nat.le_of_ble_eq_true rfl) (Nat.le_of_ble_eq_true rfl) ?_
      rintro v w5 ⟨rfl, hw5⟩
      rw [hw5, htp]
      show Vv _ _ _ _ _ _ _ _ _ _ _ _ _ _ _ [.int (-1)] (0, 0, (xI h 1019 (na (f3 :: r)) (nI (hl (f3 :: r)).length)))
      refine v_istore (lb := [some (.ref 1003), some (.int (icN S.2.2.1.1)), some (.int mv), some (.int pv), some (.int (nI (hl S.2.2.1.1).length)), some (.int (nI tk.length)), some (.int (nI (na S.2.2.1.1))), some (.int (-1))]) X (dk D_Rf_handle 91 rfl) (by decide) rfl ?_
      refine v_iload X (dk D_Rf_handle 92 rfl) rfl ?_
      refine v_if_lt (tgt := 191) X (dk D_Rf_handle 93 rfl) (by decide) (fun _ => ?_) (fun c176 => absurd (by decide) c176)
      exact v_weak (la := [some (.ref 1003), some (.int (icN S.2.2.1.1)), some (.int mv), some (.int pv), some (.int (nI (hl S.2.2.1.1).length)), some (.int (nI tk.length)), some (.int (nI (na S.2.2.1.1))), none]) ⟨rfl, rfl, rfl, rfl, rfl, rfl, rfl, trivial⟩ <| fS hcL mv pv S3 [] (xI h 1019 (na (f3 :: r)) (nI (hl (f3 :: r)).length)) hs2 hZ2 hV2 (by have := hZ2.2.1.2.1; show 0 + _ ≤ 32768; omega) ((z2.2 2 (by decide)).trans he3) hrwr hstr h342 hok3 hqn3 hfu3 (fun tl => by obtain ⟨tl3, hX3⟩ := hX tl; rw [hX3, rnF, hfx, if_neg (fun z => z rfl), hrr])
    · have hem : e ∈ M := by rw [hMA]; exact List.mem_append_right _ (List.mem_cons_self ..)
      have hAl : A.length < 317 := by have := hM.2.2.2.2.2.2.1; rw [hMA, List.length_append, List.length_cons] at this; omega
      have hfc : fnC f3 r S3 = fnE r (aX S3 f3 e.2).1 (aX S3 f3 e.2).2.1 (aX S3 f3 e.2).2.2 := fnC_aX (by rw [hSe, h3n]; exact mg_hd hMA heq hB)
      have hact := r_act l q hZ2 ((z2.2 2 (by decide)).trans he3) hV2 hC2 hM hbd hdf hdb hSe hMA
      rw [hrl, h3n, hrn] at hact
      have h32 := aX_q (S := S3) (f := f3) (e := e.2) (hM.2.2.2.2.2.2.2.2 e hem)
      refine v_aload_n X (dk D_Rf_handle 75 rfl) rfl ?_
      refine v_getF X (dk D_Rf_handle 76 rfl) F_Rf_59 rfl rfl (hSh.lt (by decide)) (hSh.2 1003 38) ?_
      refine v_aload_n X (dk D_Rf_handle 77 rfl) rfl ?_
      refine v_getI X (dk D_Rf_handle 78 rfl) F_Rf_243 rfl rfl (hSh.lt (by decide)) ?_
      rw [hA3.2.1]
      refine v_aload_n X (dk D_Rf_handle 79 rfl) rfl ?_
      refine v_getI X (dk D_Rf_handle 80 rfl) F_Rf_226 rfl rfl (hSh.lt (by decide)) ?_
      rw [hA3.1.1]
      refine v_iast X (dk D_Rf_handle 81 rfl) rfl (hSh.lt (by decide)) (vp_in_nI (show (na (f3 :: r)) < 8300 by omega) (by decide)) ?_
      rw [nI_clamp (by omega)]
      refine v_aload_n X (dk D_Rf_handle 82 rfl) rfl ?_
      refine v_getI X (dk D_Rf_handle 83 rfl) F_Rf_72 rfl rfl (hS2.lt (by decide)) ?_
      refine v_if_ne (tgt := 191) X (dk D_Rf_handle 84 rfl) (by decide) (fun c157 => absurd ((z2.2 2 (by decide)).trans he3) c157) (fun _ => ?_)
      refine v_aload_n X (dk D_Rf_handle 85 rfl) rfl ?_
      refine v_aload_n X (dk D_Rf_handle 86 rfl) rfl ?_
      refine v_getF X (dk D_Rf_handle 87 rfl) F_Rf_56 rfl rfl (hS2.lt (by decide)) (hS2.2 1003 35) ?_
      refine v_iload X (dk D_Rf_handle 88 rfl) rfl ?_
      refine v_iload X (dk D_Rf_handle 89 rfl) rfl ?_
      refine v_invV (As := [.ref 1018, .int (nI (hl S.2.2.1.1).length), .int (nI tk.length)]) (st := []) X (r_top l q (r := 1018) (N := 16385) (p := (hl S.2.2.1.1).length) (ys := tk) hS2 hM rfl (hS2.lt (by decide)) (by decide) (by have := hnl; rw [hrl, h3n] at this; omega) hnam) (dk D_Rf_handle 90 rfl) G_Rf_232 K_Rf_top V_Rf_top rfl rfl (hS2.lt (by decide)) rfl rfl (Nat.le_of_ble_eq_true rfl) (by dsimp only [rmT]; omega) (by dsimp only [rmT]; omega) (Nat.le_of_ble_eq_true rfl) (Nat.le_of_ble_eq_true rfl) ?_
      rintro v w5 ⟨rfl, hw5⟩
      rw [hw5, htp]
      show Vv _ _ _ _ _ _ _ _ _ _ _ _ _ _ _ [.int (nI A.length)] (0, 0, (xI h 1019 (na (f3 :: r)) (nI (hl (f3 :: r)).length)))
      refine v_istore (lb := [some (.ref 1003), some (.int (icN S.2.2.1.1)), some (.int mv), some (.int pv), some (.int (nI (hl S.2.2.1.1).length)), some (.int (nI tk.length)), some (.int (nI (na S.2.2.1.1))), some (.int (nI A.length))]) X (dk D_Rf_handle 91 rfl) (by decide) rfl ?_
      refine v_iload X (dk D_Rf_handle 92 rfl) rfl ?_
      refine v_if_lt (tgt := 191) X (dk D_Rf_handle 93 rfl) (by decide) (fun c176 => absurd c176 (nI_pos (by omega))) (fun _ => ?_)
      refine v_aload_n X (dk D_Rf_handle 94 rfl) rfl ?_
      refine v_iload X (dk D_Rf_handle 95 rfl) rfl ?_
      refine v_iload X (dk D_Rf_handle 96 rfl) rfl ?_
      refine v_iload X (dk D_Rf_handle 97 rfl) rfl ?_
      refine v_iload X (dk D_Rf_handle 98 rfl) rfl ?_
      refine v_invV (As := [.int (nI A.length), .int (nI (hl S.2.2.1.1).length), .int (nI tk.length), .int (nI (na S.2.2.1.1))]) (st := []) X (hact) (dk D_Rf_handle 99 rfl) G_Rf_249 K_Rf_act V_Rf_act rfl rfl (hS2.lt (by decide)) rfl rfl (Nat.le_of_ble_eq_true rfl) (by dsimp only [rmT]; omega) (by dsimp only [rmT]; omega) (Nat.le_of_ble_eq_true rfl) (Nat.le_of_ble_eq_true rfl) ?_
      rintro v w5 ⟨rfl, z5, hAP⟩
      have hs5 := hs2.tr (z5.mono (by decide) (by decide))
      have hS5 := hs5.S hS
      show Vv _ _ _ _ _ _ _ _ _ _ _ _ _ _ _ [] (0, 0, w5.2.2)
      skip
      have e37 : gI w5.2.2 1003 37 = nI (na (f3 :: r)) := (z5.2 37 (by decide)).trans hA2.2.1
      refine v_weak (la := [some (.ref 1003), some (.int (icN S.2.2.1.1)), some (.int mv), some (.int pv), some (.int (nI (hl S.2.2.1.1).length)), some (.int (nI tk.length)), some (.int (nI (na S.2.2.1.1))), none]) ⟨rfl, rfl, rfl, rfl, rfl, rfl, rfl, trivial⟩ ?_
      by_cases h0 : (aX S3 f3 e.2).1 = 0
      · obtain ⟨hGE, hZ5⟩ := hAP.1 h0
        rcases hGE with ⟨g1, g2, g3⟩ | ⟨g1, g2, g3, G, g4⟩
        · have hfE : fnE r (aX S3 f3 e.2).1 (aX S3 f3 e.2).2.1 (aX S3 f3 e.2).2.2 = (0, (((aX S3 f3 e.2).2.2 ++ (aX S3 f3 e.2).2.1.1.1, (aX S3 f3 e.2).2.1.1.2), (aX S3 f3 e.2).2.1.2.1, (r, false), (aX S3 f3 e.2).2.1.2.2.2)) := by rw [fnE, if_pos h0, if_pos g3]
          rw [hfc, hfE] at hfx hq9
          have hri := fnC_RI (f := f3) (r := r) (S := S3) hok3 (by rw [hrr]; exact FO_ntT (hFO hk3))
          rw [hfc, hfE] at hri
          exact fS hcL mv pv (aX S3 f3 e.2).2.1 (aX S3 f3 e.2).2.2 w5.2.2 hs5 hZ5 g2 g3 g1 (hrwr (fun j hj => (z5.row (by decide) (by decide) _).trans (hA2.1.2.1 j hj))) (by rw [← hrr]; exact stS_of hA2.2.2.2.2.2.2 (fun j _ => z5.row (by decide) (by decide) j)) ((z5.2 34 (by decide)).trans h342) hri.2.2 hq9.1 (Nat.le_trans hq9.2 hfu3) (fun tl => by obtain ⟨tl3, hX3⟩ := hX tl; rw [hX3, rnF, hfx, if_neg (fun z => z rfl), hrr])
        · have hfE : fnE r (aX S3 f3 e.2).1 (aX S3 f3 e.2).2.1 (aX S3 f3 e.2).2.2 = (40, ((aX S3 f3 e.2).2.1.1, (aX S3 f3 e.2).2.1.2.1, (r, false), (aX S3 f3 e.2).2.1.2.2.2)) := by rw [fnE, if_pos h0, if_neg (by omega)]
          rw [hfc, hfE] at hfx
          have hne5 : ¬ gI w5.2.2 1003 2 = 0 := by rw [g1]; decide
          exact fE mv pv w5.2.2 hs5 hne5 (fun tl => by obtain ⟨tl3, hX3⟩ := hX tl; rw [hX3, rnF, hfx, if_pos (by exact e40)]; exact XE_of ⟨g1, g2, hZ5.2.1.2.2.2.2.2.2.2.1, hZ5.2.2.2.2.1.cnt.1, hZ5.2.2.2.2.1.cnt.2⟩ (by exact e40) (by exact e40b) ⟨_, hn3, e37⟩)
      · have hfE : fnE r (aX S3 f3 e.2).1 (aX S3 f3 e.2).2.1 (aX S3 f3 e.2).2.2 = ((aX S3 f3 e.2).1, ((aX S3 f3 e.2).2.1.1, (aX S3 f3 e.2).2.1.2.1, (r, false), (aX S3 f3 e.2).2.1.2.2.2)) := by rw [fnE, if_neg h0]
        rw [hfc, hfE] at hfx
        have hER := hAP.2 h0
        have hne5 : ¬ gI w5.2.2 1003 2 = 0 := by rw [hER.1]; exact h0
        exact fE mv pv w5.2.2 hs5 hne5 (fun tl => by obtain ⟨tl3, hX3⟩ := hX tl; rw [hX3, rnF, hfx, if_pos h0]; exact XE_of (show ER w5.2.2 fu (aX S3 f3 e.2).1 ((aX S3 f3 e.2).2.1.1, (aX S3 f3 e.2).2.1.2.1, (r, false), (aX S3 f3 e.2).2.1.2.2.2) from hER) h0 h32 ⟨_, hn3, e37⟩)
  have call : kd = 3 → isCl S tk = true → ∀ (mv : Int32), Vv pp l ee (rmT D 0 0) ss mm aa bb mt cd 8 q (MQ bb (Qw q (fun v w => v = none ∧ rs g w.2.2 [2, 3, 4, 8, 9, 10, 11, 13, 15, 16, 18, 20, 21, 27, 28, 29, 32, 33, 34, 36, 37, 39, 40, 41, 42, 43, 44] [1006, 1007, 1008, 1009, 1010, 1011, 1012, 1013, 1014, 1015, 1016, 1017, 1018, 1019, 1020, 1021] ∧ HP w.2.2 fu S kd tk)) aa ss 0 0 (fun a => q.1 ≤ a)) 76 [some (.ref 1003), some (.int (icN S.2.2.1.1)), some (.int mv), some (.int (if atL S.1.1 (nI 0) = 40 then 1 else 0)), none, none, none, none] [] (0, 0, g) := by
    intro hk3 hcl mv
    have hfl := hA.2.2.2.2.1
    have hcL : cL S.2.2.1.1 (ntT S.2.2.1.1) kd tk := by
      cases hfs : S.2.2.1.1 with
      | nil => rfl
      | cons f r => exact ⟨f.2.1, rfl, rfl, Nat.le_refl _, fun z => by rw [hk3] at z; exact absurd z (by decide)⟩
    by_cases c50 : S.2.2.1.1.length = 50
    · skip
      refine v_aload_n X (dk D_Rf_handle 42 rfl) rfl ?_
      refine v_getI X (dk D_Rf_handle 43 rfl) F_Rf_240 rfl rfl (hS.lt (by decide)) ?_
      refine v_bipush (v := 50) X (dk D_Rf_handle 44 rfl) (by decide) ?_
      refine v_icmp_ne (tgt := 92) X (dk D_Rf_handle 45 rfl) (by decide) (fun c82 => absurd (by rw [hA.2.2.2.1, c50]; rfl) c82) (fun _ => ?_)
      refine v_aload_n X (dk D_Rf_handle 46 rfl) rfl ?_
      refine v_bipush (v := 34) X (dk D_Rf_handle 47 rfl) (by decide) ?_
      refine v_invV (As := [.int 34]) (st := []) X (r_fail1 l q (n := 34) hS) (dk D_Rf_handle 48 rfl) G_Rf_84 K_Rf_fail1 V_Rf_fail1 rfl rfl (hS.lt (by decide)) rfl rfl (Nat.le_of_ble_eq_true rfl) (by dsimp only [rmT]; omega) (by dsimp only [rmT]; omega) (Nat.le_of_ble_eq_true rfl) (Nat.le_of_ble_eq_true rfl) ?_
      rintro v w1 ⟨rfl, hw⟩
      rw [hw, if_pos he]
      show Vv _ _ _ _ _ _ _ _ _ _ _ _ _ _ _ [] (0, 0, (xI (xI g 1003 2 34) 1003 3 (gI g 1003 10)))
      exact v_vret X hlk hrt (dk D_Rf_handle 49 rfl) ⟨rfl, (((rs.rf g _ _).fI (by decide)).fI (by decide)), fun z => by rw [gI_nk (by decide), gI_eq] at z; exact absurd z (by decide), fun _ tl => by rw [hR_c hk3 hcl, show opC tk S = (34, sF S (ntT S.2.2.1.1) false) from by rw [opC, if_pos (by omega)], if_pos (by exact e34)]; exact XE_of ⟨(gI_nk (by decide)).trans (gI_eq _ _ _ _), (gI_eq _ _ _ _).trans hZ.2.1.2.2.2.2.2.1, ((gI_nk (by decide)).trans (gI_nk (by decide))).trans hZ.2.1.2.2.2.2.2.2.2.1, ((gI_nk (by decide)).trans (gI_nk (by decide))).trans hZ.2.2.2.2.1.cnt.1, ((gI_nk (by decide)).trans (gI_nk (by decide))).trans hZ.2.2.2.2.1.cnt.2⟩ (by exact e34) (by exact e34b) ⟨_, hA.2.2.1, ((gI_nk (by decide)).trans (gI_nk (by decide))).trans hA.2.1⟩⟩
    · have z1 : rs g (xI g 1003 34 (nI (S.2.2.1.1.length + 1))) [34] [] := (rs.rf g _ _).fI (by decide)
      have S1 := z1.S hS
      refine v_aload_n X (dk D_Rf_handle 42 rfl) rfl ?_
      refine v_getI X (dk D_Rf_handle 43 rfl) F_Rf_240 rfl rfl (hS.lt (by decide)) ?_
      refine v_bipush (v := 50) X (dk D_Rf_handle 44 rfl) (by decide) ?_
      refine v_icmp_ne (tgt := 92) X (dk D_Rf_handle 45 rfl) (by decide) (fun _ => ?_) (fun c82 => absurd c82 (by rw [hA.2.2.2.1, show (50 : Int32) = nI 50 from rfl, nI_eq (by omega) (by decide)]; exact c50))
      refine v_aload_n X (dk D_Rf_handle 50 rfl) rfl ?_
      refine v_dup X (dk D_Rf_handle 51 rfl) rfl ?_
      refine v_getI X (dk D_Rf_handle 52 rfl) F_Rf_240 rfl rfl (hS.lt (by decide)) ?_
      rw [hA.2.2.2.1]
      refine v_iconst (v := 1) X (dk D_Rf_handle 53 rfl) (by decide) ?_
      refine v_iadd X (dk D_Rf_handle 54 rfl) ?_
      rw [nI_1]
      refine v_putI X (dk D_Rf_handle 55 rfl) F_Rf_240 CK_Rf rfl rfl (hS.lt (by decide)) rfl rfl ?_
      refine v_aload_n X (dk D_Rf_handle 56 rfl) rfl ?_
      refine v_getI X (dk D_Rf_handle 57 rfl) F_Rf_226 rfl rfl (hS.lt (by decide)) ?_
      rw [(z1.2 36 (by decide)), hA.1.1]
      refine v_istore (lb := [some (.ref 1003), some (.int (icN S.2.2.1.1)), some (.int mv), some (.int (if atL S.1.1 (nI 0) = 40 then 1 else 0)), some (.int (nI (hl S.2.2.1.1).length)), none, none, none]) X (dk D_Rf_handle 58 rfl) (by decide) rfl ?_
      refine v_aload_n X (dk D_Rf_handle 59 rfl) rfl ?_
      refine v_getI X (dk D_Rf_handle 60 rfl) F_Rf_109 rfl rfl (hS.lt (by decide)) ?_
      rw [(z1.2 18 (by decide)), hTK.1]
      refine v_istore (lb := [some (.ref 1003), some (.int (icN S.2.2.1.1)), some (.int mv), some (.int (if atL S.1.1 (nI 0) = 40 then 1 else 0)), some (.int (nI (hl S.2.2.1.1).length)), some (.int (nI tk.length)), none, none]) X (dk D_Rf_handle 61 rfl) (by decide) rfl ?_
      refine v_aload_n X (dk D_Rf_handle 62 rfl) rfl ?_
      refine v_getI X (dk D_Rf_handle 63 rfl) F_Rf_243 rfl rfl (hS.lt (by decide)) ?_
      rw [(z1.2 37 (by decide)), hA.2.1]
      refine v_istore (lb := [some (.ref 1003), some (.int (icN S.2.2.1.1)), some (.int mv), some (.int (if atL S.1.1 (nI 0) = 40 then 1 else 0)), some (.int (nI (hl S.2.2.1.1).length)), some (.int (nI tk.length)), some (.int (nI (na S.2.2.1.1))), none]) X (dk D_Rf_handle 64 rfl) (by decide) rfl ?_
      refine v_aload_n X (dk D_Rf_handle 65 rfl) rfl ?_
      refine v_iconst (v := 1) X (dk D_Rf_handle 66 rfl) (by decide) ?_
      refine v_invV (As := [.int 1]) (st := []) X (r_putTokenA l q (xs := hl S.2.2.1.1) (g := (xI g 1003 34 (nI (S.2.2.1.1.length + 1)))) S1 (hA.1.rs z1 (by decide) (by decide)) (hTK.rs z1 (by decide) (by decide)) ((z1.2 2 (by decide)).trans he)) (dk D_Rf_handle 67 rfl) G_Rf_236 K_Rf_putToken V_Rf_putToken rfl rfl (S1.lt (by decide)) rfl rfl (Nat.le_of_ble_eq_true rfl) (by dsimp only [rmT]; omega) (by dsimp only [rmT]; omega) (Nat.le_of_ble_eq_true rfl) (Nat.le_of_ble_eq_true rfl) ?_
      rintro v w1 ⟨rfl, a1, a2, a3⟩
      have zz1 := z1.mono (K2 := [2, 3, 4, 8, 9, 10, 11, 13, 15, 16, 18, 20, 21, 27, 28, 29, 32, 33, 34, 36, 37, 39, 40, 41, 42, 43, 44]) (U2 := [1006, 1007, 1008, 1009, 1010, 1011, 1012, 1013, 1014, 1015, 1016, 1017, 1018, 1019, 1020, 1021]) (by decide) (by decide)
      have hs1 := zz1.tr (a1.mono (by decide) (by decide))
      have S2 := hs1.S hS
      show Vv _ _ _ _ _ _ _ _ _ _ _ _ _ _ _ [] (0, 0, w1.2.2)
      skip
      by_cases hle : (hl S.2.2.1.1).length + tk.length ≤ 16384
      · have hA1 : AR w1.2.2 ((tk, [], 1, false) :: ntT S.2.2.1.1) := by
          obtain ⟨e1, e2, e3⟩ := ntT_hl S.2.2.1.1
          have hAn : AR g (ntT S.2.2.1.1) := by
            obtain ⟨p1, p2, p3, p4, p5, p6⟩ := hA
            refine ⟨by rw [e1]; exact p1, by rw [e2]; exact p2, by rw [e2]; exact p3, by rw [e3]; exact p4, by rw [e3]; exact p5, ?_⟩
            cases hfs : S.2.2.1.1 with
            | nil => trivial
            | cons f r => rw [hfs] at p6; exact p6
          refine AR_nm 1 false hAn (z1.mono (K2 := [2, 3, 34, 36]) (U2 := [1018]) (by decide) (by decide) |>.tr (a1.mono (by decide) (by decide))) (by decide) (by decide) (by rw [e1]; exact (a2 hle).2) ?_ (by rw [e3]; omega)
          rw [a1.2 34 (by decide), gI_eq, e3]
        have hZ1 : RZ w1.2.2 fu S := (hZ.rs z1 (by decide) (by decide)).rs a1 (by decide) (by decide)
        have hV1 := (hV.rs z1 (by decide) (by decide)).rs a1 (by decide) (by decide)
        by_cases h40 : atL S.1.1 (nI 0) = 40
        · obtain ⟨d, hd, hRA⟩ := hRa (by omega)
          have hop : ∀ tl, hR kd tk S tl = oRr tk (ntT S.2.2.1.1) S tl := fun tl => by rw [hR_c hk3 hcl, opC_oV (by omega) (by omega) h40]; rfl
          refine v_iload_n X (dk D_Rf_handle 68 rfl) rfl ?_
          refine v_if_eq (tgt := 140) X (dk D_Rf_handle 69 rfl) (by decide) (fun c126 => absurd c126 (by rw [if_pos h40]; decide)) (fun _ => ?_)
          refine v_aload_n X (dk D_Rf_handle 70 rfl) rfl ?_
          refine v_getI X (dk D_Rf_handle 71 rfl) F_Rf_72 rfl rfl (S2.lt (by decide)) ?_
          refine v_if_ne (tgt := 140) X (dk D_Rf_handle 72 rfl) (by decide) (fun c133 => absurd (a2 hle).1 c133) (fun _ => ?_)
          refine v_aload_n X (dk D_Rf_handle 73 rfl) rfl ?_
          refine v_invV (As := []) (st := []) X (hRA w1.2.2 fu S tk (ntT S.2.2.1.1) hZ1 hA1 (by rw [(ntT_hl _).2.2, hcl0]) hok hqn hV1 (a2 hle).1 (FO_ntT (hFO hk3)) h40) (dk D_Rf_handle 74 rfl) G_Rf_246 K_Rf_readArguments V_Rf_readArguments rfl rfl (S2.lt (by decide)) rfl rfl (Nat.le_of_ble_eq_true rfl) (by dsimp only [rmT]; omega) (by dsimp only [rmT]; omega) (Nat.le_of_ble_eq_true rfl) (Nat.le_of_ble_eq_true rfl) ?_
          rintro v w2 ⟨rfl, z2, hAQ⟩
          have hs3 := hs1.tr z2
          show Vv _ _ _ _ _ _ _ _ _ _ _ _ _ _ _ [] (0, 0, w2.2.2)
          skip
          by_cases he2 : gI w2.2.2 1003 2 = 0
          · obtain ⟨S3, f3, tl3, q1, q2, q3, q4, q5, q6, q7, q8, q9⟩ := hAQ.1 he2
            exact gS hk3 hcL mv _ S3 f3 _ w2.2.2 rfl hs3 q1 q2 q3 q4 q5 q6 q7 he2 q8 (fun tl => ⟨tl3, (hop tl).trans (q9 tl)⟩)
          · exact gE mv _ w2.2.2 hs3 he2 (fun tl => by rw [hop tl]; exact hAQ.2 he2 tl)
        · skip
          refine v_iload_n X (dk D_Rf_handle 68 rfl) rfl ?_
          refine v_if_eq (tgt := 140) X (dk D_Rf_handle 69 rfl) (by decide) (fun _ => ?_) (fun c126 => absurd (if_neg h40) c126)
          exact gS hk3 hcL mv _ (sF S ((tk, [], 1, false) :: ntT S.2.2.1.1) true) (tk, [], 1, false) _ w1.2.2 rfl hs1 rfl rfl hZ1 hA1 hok hqn hV1 (a2 hle).1 (Nat.le_refl _) (fun tl => ⟨tl, by rw [hR_c hk3 hcl, show opC tk S = (0, sF S ((tk, [], 1, false) :: ntT S.2.2.1.1) true) from by rw [opC, if_neg (by omega), if_neg (by omega), if_pos h40], if_neg (fun z => z rfl)]⟩)
      · have hXE : ∀ tl, XE w1.2.2 fu (hR kd tk S tl) := fun tl => by
          rw [hR_c hk3 hcl, show opC tk S = (40, sF S (ntT S.2.2.1.1) false) from by rw [opC, if_neg (by omega), if_pos (by omega)], if_pos (by exact e40)]
          exact XE_of ⟨(a3 hle).1, (a3 hle).2.trans ((z1.2 10 (by decide)).trans hZ.2.1.2.2.2.2.2.1), ((a1.2 4 (by decide)).trans (z1.2 4 (by decide))).trans hZ.2.1.2.2.2.2.2.2.2.1, ((a1.2 28 (by decide)).trans (z1.2 28 (by decide))).trans hZ.2.2.2.2.1.cnt.1, ((a1.2 29 (by decide)).trans (z1.2 29 (by decide))).trans hZ.2.2.2.2.1.cnt.2⟩ (by exact e40) (by exact e40b) ⟨_, hA.2.2.1, ((a1.2 37 (by decide)).trans (z1.2 37 (by decide))).trans hA.2.1⟩
        have hne1 : ¬ gI w1.2.2 1003 2 = 0 := by rw [(a3 hle).1]; decide
        by_cases h40 : atL S.1.1 (nI 0) = 40
        · skip
          refine v_iload_n X (dk D_Rf_handle 68 rfl) rfl ?_
          refine v_if_eq (tgt := 140) X (dk D_Rf_handle 69 rfl) (by decide) (fun c126 => absurd c126 (by rw [if_pos h40]; decide)) (fun _ => ?_)
          refine v_aload_n X (dk D_Rf_handle 70 rfl) rfl ?_
          refine v_getI X (dk D_Rf_handle 71 rfl) F_Rf_72 rfl rfl (S2.lt (by decide)) ?_
          refine v_if_ne (tgt := 140) X (dk D_Rf_handle 72 rfl) (by decide) (fun _ => ?_) (fun c133 => absurd c133 hne1)
          exact gE mv _ w1.2.2 hs1 hne1 hXE
        · skip
          refine v_iload_n X (dk D_Rf_handle 68 rfl) rfl ?_
          refine v_if_eq (tgt := 140) X (dk D_Rf_handle 69 rfl) (by decide) (fun _ => ?_) (fun c126 => absurd (if_neg h40) c126)
          exact gE mv _ w1.2.2 hs1 hne1 hXE
  obtain ⟨M, hM, hbd, hdf, hdb, hSe⟩ := hZ.2.2.2.2.1
  by_cases hk3 : ¬ kd = 3
  · by_cases h40 : atL S.1.1 (nI 0) = 40
    · skip
      refine v_aload_n X (dk D_Rf_handle 0 rfl) rfl ?_
      refine v_getI X (dk D_Rf_handle 1 rfl) F_Rf_126 rfl rfl (hS.lt (by decide)) ?_
      refine v_iconst (v := 3) X (dk D_Rf_handle 2 rfl) (by decide) ?_
      refine v_icmp_ne (tgt := 24) X (dk D_Rf_handle 3 rfl) (by decide) (fun _ => ?_) (fun c5 => absurd c5 (fun z => hk3 (hkd.symm.trans z)))
      refine v_iconst (v := -1) X (dk D_Rf_handle 12 rfl) (by decide) ?_
      refine v_istore_n (lb := [some (.ref 1003), some (.int (icN S.2.2.1.1)), some (.int (-1)), none, none, none, none, none]) X (dk D_Rf_handle 13 rfl) (by decide) rfl ?_
      refine v_aload_n X (dk D_Rf_handle 14 rfl) rfl ?_
      refine v_iconst (v := nI 0) X (dk D_Rf_handle 15 rfl) (by decide) ?_
      refine v_invV (As := [.int (nI 0)]) (st := []) X (r_peek l q (k := 0) hS hZ.2.1 (by decide)) (dk D_Rf_handle 16 rfl) G_Rf_101 K_Rf_peek V_Rf_peek rfl rfl (hS.lt (by decide)) rfl rfl (Nat.le_of_ble_eq_true rfl) (by dsimp only [rmT]; omega) (by dsimp only [rmT]; omega) (Nat.le_of_ble_eq_true rfl) (Nat.le_of_ble_eq_true rfl) ?_
      rintro v ws ⟨rfl, hws⟩
      rw [hws]
      show Vv _ _ _ _ _ _ _ _ _ _ _ _ _ _ _ [.int (atL S.1.1 (nI 0))] (0, 0, g)
      refine v_bipush (v := 40) X (dk D_Rf_handle 17 rfl) (by decide) ?_
      refine v_icmp_ne (tgt := 40) X (dk D_Rf_handle 18 rfl) (by decide) (fun c33 => absurd h40 c33) (fun _ => ?_)
      refine v_iconst (v := 1) X (dk D_Rf_handle 19 rfl) (by decide) ?_
      refine v_goto (tgt := 41) X (dk D_Rf_handle 20 rfl) (by decide) ?_
      refine v_istore_n (lb := [some (.ref 1003), some (.int (icN S.2.2.1.1)), some (.int (-1)), some (.int 1), none, none, none, none]) X (dk D_Rf_handle 22 rfl) (by decide) rfl ?_
      refine v_iload_n X (dk D_Rf_handle 23 rfl) rfl ?_
      refine v_if_lt (tgt := 70) X (dk D_Rf_handle 24 rfl) (by decide) (fun _ => ?_) (fun c43 => absurd (by decide) c43)
      exact put (fun z => hk3 z.1) _ _
    · skip
      refine v_aload_n X (dk D_Rf_handle 0 rfl) rfl ?_
      refine v_getI X (dk D_Rf_handle 1 rfl) F_Rf_126 rfl rfl (hS.lt (by decide)) ?_
      refine v_iconst (v := 3) X (dk D_Rf_handle 2 rfl) (by decide) ?_
      refine v_icmp_ne (tgt := 24) X (dk D_Rf_handle 3 rfl) (by decide) (fun _ => ?_) (fun c5 => absurd c5 (fun z => hk3 (hkd.symm.trans z)))
      refine v_iconst (v := -1) X (dk D_Rf_handle 12 rfl) (by decide) ?_
      refine v_istore_n (lb := [some (.ref 1003), some (.int (icN S.2.2.1.1)), some (.int (-1)), none, none, none, none, none]) X (dk D_Rf_handle 13 rfl) (by decide) rfl ?_
      refine v_aload_n X (dk D_Rf_handle 14 rfl) rfl ?_
      refine v_iconst (v := nI 0) X (dk D_Rf_handle 15 rfl) (by decide) ?_
      refine v_invV (As := [.int (nI 0)]) (st := []) X (r_peek l q (k := 0) hS hZ.2.1 (by decide)) (dk D_Rf_handle 16 rfl) G_Rf_101 K_Rf_peek V_Rf_peek rfl rfl (hS.lt (by decide)) rfl rfl (Nat.le_of_ble_eq_true rfl) (by dsimp only [rmT]; omega) (by dsimp only [rmT]; omega) (Nat.le_of_ble_eq_true rfl) (Nat.le_of_ble_eq_true rfl) ?_
      rintro v ws ⟨rfl, hws⟩
      rw [hws]
      show Vv _ _ _ _ _ _ _ _ _ _ _ _ _ _ _ [.int (atL S.1.1 (nI 0))] (0, 0, g)
      refine v_bipush (v := 40) X (dk D_Rf_handle 17 rfl) (by decide) ?_
      refine v_icmp_ne (tgt := 40) X (dk D_Rf_handle 18 rfl) (by decide) (fun _ => ?_) (fun c33 => absurd c33 h40)
      refine v_iconst (v := 0) X (dk D_Rf_handle 21 rfl) (by decide) ?_
      refine v_istore_n (lb := [some (.ref 1003), some (.int (icN S.2.2.1.1)), some (.int (-1)), some (.int 0), none, none, none, none]) X (dk D_Rf_handle 22 rfl) (by decide) rfl ?_
      refine v_iload_n X (dk D_Rf_handle 23 rfl) rfl ?_
      refine v_if_lt (tgt := 70) X (dk D_Rf_handle 24 rfl) (by decide) (fun _ => ?_) (fun c43 => absurd (by decide) c43)
      exact put (fun z => hk3 z.1) _ _
  replace hk3 := Decidable.not_not.mp hk3
  rcases tp_or M tk with ⟨hno, htp⟩ | ⟨A, e, B, hMA, heq, hB, htp⟩
  · have hncl : ¬ isCl S tk = true := isCl_no (by rw [hSe]; exact mgP_no hno)
    by_cases h40 : atL S.1.1 (nI 0) = 40
    · skip
      refine v_aload_n X (dk D_Rf_handle 0 rfl) rfl ?_
      refine v_getI X (dk D_Rf_handle 1 rfl) F_Rf_126 rfl rfl (hS.lt (by decide)) ?_
      refine v_iconst (v := 3) X (dk D_Rf_handle 2 rfl) (by decide) ?_
      refine v_icmp_ne (tgt := 24) X (dk D_Rf_handle 3 rfl) (by decide) (fun c5 => absurd (hkd.trans hk3) c5) (fun _ => ?_)
      refine v_aload_n X (dk D_Rf_handle 4 rfl) rfl ?_
      refine v_aload_n X (dk D_Rf_handle 5 rfl) rfl ?_
      refine v_getF X (dk D_Rf_handle 6 rfl) F_Rf_27 rfl rfl (hS.lt (by decide)) (hS.2 1003 17) ?_
      refine v_iconst (v := nI 0) X (dk D_Rf_handle 7 rfl) (by decide) ?_
      refine v_aload_n X (dk D_Rf_handle 8 rfl) rfl ?_
      refine v_getI X (dk D_Rf_handle 9 rfl) F_Rf_109 rfl rfl (hS.lt (by decide)) ?_
      rw [hTK.1]
      refine v_invV (As := [.ref 1009, .int (nI 0), .int (nI tk.length)]) (st := []) X (r_top l q (r := 1009) (N := 32768) (p := 0) (ys := tk) hS hM rfl (hS.lt (by decide)) (by decide) (by have := hTK.2.2; omega) hTK.2.1) (dk D_Rf_handle 10 rfl) G_Rf_232 K_Rf_top V_Rf_top rfl rfl (hS.lt (by decide)) rfl rfl (Nat.le_of_ble_eq_true rfl) (by dsimp only [rmT]; omega) (by dsimp only [rmT]; omega) (Nat.le_of_ble_eq_true rfl) (Nat.le_of_ble_eq_true rfl) ?_
      rintro v ws ⟨rfl, hws⟩
      rw [hws, htp]
      show Vv _ _ _ _ _ _ _ _ _ _ _ _ _ _ _ [.int (-1)] (0, 0, g)
      refine v_goto (tgt := 25) X (dk D_Rf_handle 11 rfl) (by decide) ?_
      refine v_istore_n (lb := [some (.ref 1003), some (.int (icN S.2.2.1.1)), some (.int (-1)), none, none, none, none, none]) X (dk D_Rf_handle 13 rfl) (by decide) rfl ?_
      refine v_aload_n X (dk D_Rf_handle 14 rfl) rfl ?_
      refine v_iconst (v := nI 0) X (dk D_Rf_handle 15 rfl) (by decide) ?_
      refine v_invV (As := [.int (nI 0)]) (st := []) X (r_peek l q (k := 0) hS hZ.2.1 (by decide)) (dk D_Rf_handle 16 rfl) G_Rf_101 K_Rf_peek V_Rf_peek rfl rfl (hS.lt (by decide)) rfl rfl (Nat.le_of_ble_eq_true rfl) (by dsimp only [rmT]; omega) (by dsimp only [rmT]; omega) (Nat.le_of_ble_eq_true rfl) (Nat.le_of_ble_eq_true rfl) ?_
      rintro v ws ⟨rfl, hws⟩
      rw [hws]
      show Vv _ _ _ _ _ _ _ _ _ _ _ _ _ _ _ [.int (atL S.1.1 (nI 0))] (0, 0, g)
      refine v_bipush (v := 40) X (dk D_Rf_handle 17 rfl) (by decide) ?_
      refine v_icmp_ne (tgt := 40) X (dk D_Rf_handle 18 rfl) (by decide) (fun c33 => absurd h40 c33) (fun _ => ?_)
      refine v_iconst (v := 1) X (dk D_Rf_handle 19 rfl) (by decide) ?_
      refine v_goto (tgt := 41) X (dk D_Rf_handle 20 rfl) (by decide) ?_
      refine v_istore_n (lb := [some (.ref 1003), some (.int (icN S.2.2.1.1)), some (.int (-1)), some (.int 1), none, none, none, none]) X (dk D_Rf_handle 22 rfl) (by decide) rfl ?_
      refine v_iload_n X (dk D_Rf_handle 23 rfl) rfl ?_
      refine v_if_lt (tgt := 70) X (dk D_Rf_handle 24 rfl) (by decide) (fun _ => ?_) (fun c43 => absurd (by decide) c43)
      exact put (fun z => hncl z.2) _ _
    · skip
      refine v_aload_n X (dk D_Rf_handle 0 rfl) rfl ?_
      refine v_getI X (dk D_Rf_handle 1 rfl) F_Rf_126 rfl rfl (hS.lt (by decide)) ?_
      refine v_iconst (v := 3) X (dk D_Rf_handle 2 rfl) (by decide) ?_
      refine v_icmp_ne (tgt := 24) X (dk D_Rf_handle 3 rfl) (by decide) (fun c5 => absurd (hkd.trans hk3) c5) (fun _ => ?_)
      refine v_aload_n X (dk D_Rf_handle 4 rfl) rfl ?_
      refine v_aload_n X (dk D_Rf_handle 5 rfl) rfl ?_
      refine v_getF X (dk D_Rf_handle 6 rfl) F_Rf_27 rfl rfl (hS.lt (by decide)) (hS.2 1003 17) ?_
      refine v_iconst (v := nI 0) X (dk D_Rf_handle 7 rfl) (by decide) ?_
      refine v_aload_n X (dk D_Rf_handle 8 rfl) rfl ?_
      refine v_getI X (dk D_Rf_handle 9 rfl) F_Rf_109 rfl rfl (hS.lt (by decide)) ?_
      rw [hTK.1]
      refine v_invV (As := [.ref 1009, .int (nI 0), .int (nI tk.length)]) (st := []) X (r_top l q (r := 1009) (N := 32768) (p := 0) (ys := tk) hS hM rfl (hS.lt (by decide)) (by decide) (by have := hTK.2.2; omega) hTK.2.1) (dk D_Rf_handle 10 rfl) G_Rf_232 K_Rf_top V_Rf_top rfl rfl (hS.lt (by decide)) rfl rfl (Nat.le_of_ble_eq_true rfl) (by dsimp only [rmT]; omega) (by dsimp only [rmT]; omega) (Nat.le_of_ble_eq_true rfl) (Nat.le_of_ble_eq_true rfl) ?_
      rintro v ws ⟨rfl, hws⟩
      rw [hws, htp]
      show Vv _ _ _ _ _ _ _ _ _ _ _ _ _ _ _ [.int (-1)] (0, 0, g)
      refine v_goto (tgt := 25) X (dk D_Rf_handle 11 rfl) (by decide) ?_
      refine v_istore_n (lb := [some (.ref 1003), some (.int (icN S.2.2.1.1)), some (.int (-1)), none, none, none, none, none]) X (dk D_Rf_handle 13 rfl) (by decide) rfl ?_
      refine v_aload_n X (dk D_Rf_handle 14 rfl) rfl ?_
      refine v_iconst (v := nI 0) X (dk D_Rf_handle 15 rfl) (by decide) ?_
      refine v_invV (As := [.int (nI 0)]) (st := []) X (r_peek l q (k := 0) hS hZ.2.1 (by decide)) (dk D_Rf_handle 16 rfl) G_Rf_101 K_Rf_peek V_Rf_peek rfl rfl (hS.lt (by decide)) rfl rfl (Nat.le_of_ble_eq_true rfl) (by dsimp only [rmT]; omega) (by dsimp only [rmT]; omega) (Nat.le_of_ble_eq_true rfl) (Nat.le_of_ble_eq_true rfl) ?_
      rintro v ws ⟨rfl, hws⟩
      rw [hws]
      show Vv _ _ _ _ _ _ _ _ _ _ _ _ _ _ _ [.int (atL S.1.1 (nI 0))] (0, 0, g)
      refine v_bipush (v := 40) X (dk D_Rf_handle 17 rfl) (by decide) ?_
      refine v_icmp_ne (tgt := 40) X (dk D_Rf_handle 18 rfl) (by decide) (fun _ => ?_) (fun c33 => absurd c33 h40)
      refine v_iconst (v := 0) X (dk D_Rf_handle 21 rfl) (by decide) ?_
      refine v_istore_n (lb := [some (.ref 1003), some (.int (icN S.2.2.1.1)), some (.int (-1)), some (.int 0), none, none, none, none]) X (dk D_Rf_handle 22 rfl) (by decide) rfl ?_
      refine v_iload_n X (dk D_Rf_handle 23 rfl) rfl ?_
      refine v_if_lt (tgt := 70) X (dk D_Rf_handle 24 rfl) (by decide) (fun _ => ?_) (fun c43 => absurd (by decide) c43)
      exact put (fun z => hncl z.2) _ _
  · have hem : e ∈ M := by rw [hMA]; exact List.mem_append_right _ (List.mem_cons_self ..)
    have hAl : A.length < 317 := by have := hM.2.2.2.2.2.2.1; rw [hMA, List.length_append, List.length_cons] at this; omega
    have hat := (show RM g (A ++ e :: B) from hMA ▸ hM).at.1
    have hhd : (S.2.2.2.1.1 tk).head? = some e.2 := by rw [hSe]; exact mg_hd hMA heq hB
    cases he2 : e.2.1 with
    | none =>
      have hclt : isCl S tk = true := isCl_u (t := e.2.2) (by rw [hhd, ← he2])
      have hbv : gI g 1014 A.length = 0 := by rw [hat.2.2.2, he2]; rfl
      by_cases h40 : atL S.1.1 (nI 0) = 40
      · skip
        refine v_aload_n X (dk D_Rf_handle 0 rfl) rfl ?_
        refine v_getI X (dk D_Rf_handle 1 rfl) F_Rf_126 rfl rfl (hS.lt (by decide)) ?_
        refine v_iconst (v := 3) X (dk D_Rf_handle 2 rfl) (by decide) ?_
        refine v_icmp_ne (tgt := 24) X (dk D_Rf_handle 3 rfl) (by decide) (fun c5 => absurd (hkd.trans hk3) c5) (fun _ => ?_)
        refine v_aload_n X (dk D_Rf_handle 4 rfl) rfl ?_
        refine v_aload_n X (dk D_Rf_handle 5 rfl) rfl ?_
        refine v_getF X (dk D_Rf_handle 6 rfl) F_Rf_27 rfl rfl (hS.lt (by decide)) (hS.2 1003 17) ?_
        refine v_iconst (v := nI 0) X (dk D_Rf_handle 7 rfl) (by decide) ?_
        refine v_aload_n X (dk D_Rf_handle 8 rfl) rfl ?_
        refine v_getI X (dk D_Rf_handle 9 rfl) F_Rf_109 rfl rfl (hS.lt (by decide)) ?_
        rw [hTK.1]
        refine v_invV (As := [.ref 1009, .int (nI 0), .int (nI tk.length)]) (st := []) X (r_top l q (r := 1009) (N := 32768) (p := 0) (ys := tk) hS hM rfl (hS.lt (by decide)) (by decide) (by have := hTK.2.2; omega) hTK.2.1) (dk D_Rf_handle 10 rfl) G_Rf_232 K_Rf_top V_Rf_top rfl rfl (hS.lt (by decide)) rfl rfl (Nat.le_of_ble_eq_true rfl) (by dsimp only [rmT]; omega) (by dsimp only [rmT]; omega) (Nat.le_of_ble_eq_true rfl) (Nat.le_of_ble_eq_true rfl) ?_
        rintro v ws ⟨rfl, hws⟩
        rw [hws, htp]
        show Vv _ _ _ _ _ _ _ _ _ _ _ _ _ _ _ [.int (nI A.length)] (0, 0, g)
        refine v_goto (tgt := 25) X (dk D_Rf_handle 11 rfl) (by decide) ?_
        refine v_istore_n (lb := [some (.ref 1003), some (.int (icN S.2.2.1.1)), some (.int (nI A.length)), none, none, none, none, none]) X (dk D_Rf_handle 13 rfl) (by decide) rfl ?_
        refine v_aload_n X (dk D_Rf_handle 14 rfl) rfl ?_
        refine v_iconst (v := nI 0) X (dk D_Rf_handle 15 rfl) (by decide) ?_
        refine v_invV (As := [.int (nI 0)]) (st := []) X (r_peek l q (k := 0) hS hZ.2.1 (by decide)) (dk D_Rf_handle 16 rfl) G_Rf_101 K_Rf_peek V_Rf_peek rfl rfl (hS.lt (by decide)) rfl rfl (Nat.le_of_ble_eq_true rfl) (by dsimp only [rmT]; omega) (by dsimp only [rmT]; omega) (Nat.le_of_ble_eq_true rfl) (Nat.le_of_ble_eq_true rfl) ?_
        rintro v ws ⟨rfl, hws⟩
        rw [hws]
        show Vv _ _ _ _ _ _ _ _ _ _ _ _ _ _ _ [.int (atL S.1.1 (nI 0))] (0, 0, g)
        refine v_bipush (v := 40) X (dk D_Rf_handle 17 rfl) (by decide) ?_
        refine v_icmp_ne (tgt := 40) X (dk D_Rf_handle 18 rfl) (by decide) (fun c33 => absurd h40 c33) (fun _ => ?_)
        refine v_iconst (v := 1) X (dk D_Rf_handle 19 rfl) (by decide) ?_
        refine v_goto (tgt := 41) X (dk D_Rf_handle 20 rfl) (by decide) ?_
        refine v_istore_n (lb := [some (.ref 1003), some (.int (icN S.2.2.1.1)), some (.int (nI A.length)), some (.int 1), none, none, none, none]) X (dk D_Rf_handle 22 rfl) (by decide) rfl ?_
        refine v_iload_n X (dk D_Rf_handle 23 rfl) rfl ?_
        refine v_if_lt (tgt := 70) X (dk D_Rf_handle 24 rfl) (by decide) (fun c43 => absurd c43 (nI_pos (by omega))) (fun _ => ?_)
        refine v_aload_n X (dk D_Rf_handle 25 rfl) rfl ?_
        refine v_getF X (dk D_Rf_handle 26 rfl) F_Rf_43 rfl rfl (hS.lt (by decide)) (hS.2 1003 25) ?_
        refine v_iload_n X (dk D_Rf_handle 27 rfl) rfl ?_
        refine v_iald X (dk D_Rf_handle 28 rfl) rfl (hS.lt (by decide)) (vp_in_nI (show A.length < 340 by omega) (by decide)) ?_
        refine v_if_le (tgt := 76) X (dk D_Rf_handle 29 rfl) (by decide) (fun _ => ?_) (fun c52 => absurd (by rw [nI_clamp (by omega), hbv]; decide) c52)
        have hc76 := call hk3 (hclt) (nI A.length); rw [if_pos h40] at hc76; exact hc76
      · skip
        refine v_aload_n X (dk D_Rf_handle 0 rfl) rfl ?_
        refine v_getI X (dk D_Rf_handle 1 rfl) F_Rf_126 rfl rfl (hS.lt (by decide)) ?_
        refine v_iconst (v := 3) X (dk D_Rf_handle 2 rfl) (by decide) ?_
        refine v_icmp_ne (tgt := 24) X (dk D_Rf_handle 3 rfl) (by decide) (fun c5 => absurd (hkd.trans hk3) c5) (fun _ => ?_)
        refine v_aload_n X (dk D_Rf_handle 4 rfl) rfl ?_
        refine v_aload_n X (dk D_Rf_handle 5 rfl) rfl ?_
        refine v_getF X (dk D_Rf_handle 6 rfl) F_Rf_27 rfl rfl (hS.lt (by decide)) (hS.2 1003 17) ?_
        refine v_iconst (v := nI 0) X (dk D_Rf_handle 7 rfl) (by decide) ?_
        refine v_aload_n X (dk D_Rf_handle 8 rfl) rfl ?_
        refine v_getI X (dk D_Rf_handle 9 rfl) F_Rf_109 rfl rfl (hS.lt (by decide)) ?_
        rw [hTK.1]
        refine v_invV (As := [.ref 1009, .int (nI 0), .int (nI tk.length)]) (st := []) X (r_top l q (r := 1009) (N := 32768) (p := 0) (ys := tk) hS hM rfl (hS.lt (by decide)) (by decide) (by have := hTK.2.2; omega) hTK.2.1) (dk D_Rf_handle 10 rfl) G_Rf_232 K_Rf_top V_Rf_top rfl rfl (hS.lt (by decide)) rfl rfl (Nat.le_of_ble_eq_true rfl) (by dsimp only [rmT]; omega) (by dsimp only [rmT]; omega) (Nat.le_of_ble_eq_true rfl) (Nat.le_of_ble_eq_true rfl) ?_
        rintro v ws ⟨rfl, hws⟩
        rw [hws, htp]
        show Vv _ _ _ _ _ _ _ _ _ _ _ _ _ _ _ [.int (nI A.length)] (0, 0, g)
        refine v_goto (tgt := 25) X (dk D_Rf_handle 11 rfl) (by decide) ?_
        refine v_istore_n (lb := [some (.ref 1003), some (.int (icN S.2.2.1.1)), some (.int (nI A.length)), none, none, none, none, none]) X (dk D_Rf_handle 13 rfl) (by decide) rfl ?_
        refine v_aload_n X (dk D_Rf_handle 14 rfl) rfl ?_
        refine v_iconst (v := nI 0) X (dk D_Rf_handle 15 rfl) (by decide) ?_
        refine v_invV (As := [.int (nI 0)]) (st := []) X (r_peek l q (k := 0) hS hZ.2.1 (by decide)) (dk D_Rf_handle 16 rfl) G_Rf_101 K_Rf_peek V_Rf_peek rfl rfl (hS.lt (by decide)) rfl rfl (Nat.le_of_ble_eq_true rfl) (by dsimp only [rmT]; omega) (by dsimp only [rmT]; omega) (Nat.le_of_ble_eq_true rfl) (Nat.le_of_ble_eq_true rfl) ?_
        rintro v ws ⟨rfl, hws⟩
        rw [hws]
        show Vv _ _ _ _ _ _ _ _ _ _ _ _ _ _ _ [.int (atL S.1.1 (nI 0))] (0, 0, g)
        refine v_bipush (v := 40) X (dk D_Rf_handle 17 rfl) (by decide) ?_
        refine v_icmp_ne (tgt := 40) X (dk D_Rf_handle 18 rfl) (by decide) (fun _ => ?_) (fun c33 => absurd c33 h40)
        refine v_iconst (v := 0) X (dk D_Rf_handle 21 rfl) (by decide) ?_
        refine v_istore_n (lb := [some (.ref 1003), some (.int (icN S.2.2.1.1)), some (.int (nI A.length)), some (.int 0), none, none, none, none]) X (dk D_Rf_handle 22 rfl) (by decide) rfl ?_
        refine v_iload_n X (dk D_Rf_handle 23 rfl) rfl ?_
        refine v_if_lt (tgt := 70) X (dk D_Rf_handle 24 rfl) (by decide) (fun c43 => absurd c43 (nI_pos (by omega))) (fun _ => ?_)
        refine v_aload_n X (dk D_Rf_handle 25 rfl) rfl ?_
        refine v_getF X (dk D_Rf_handle 26 rfl) F_Rf_43 rfl rfl (hS.lt (by decide)) (hS.2 1003 25) ?_
        refine v_iload_n X (dk D_Rf_handle 27 rfl) rfl ?_
        refine v_iald X (dk D_Rf_handle 28 rfl) rfl (hS.lt (by decide)) (vp_in_nI (show A.length < 340 by omega) (by decide)) ?_
        refine v_if_le (tgt := 76) X (dk D_Rf_handle 29 rfl) (by decide) (fun _ => ?_) (fun c52 => absurd (by rw [nI_clamp (by omega), hbv]; decide) c52)
        have hc76 := call hk3 (hclt) (nI A.length); rw [if_neg h40] at hc76; exact hc76
    | some c =>
      obtain ⟨j, hj17, hcj⟩ := hM.2.2.2.2.2.2.2.2 e hem c he2
      subst hcj
      have hclv : isCl S tk = decide (1048576 + j - 1048576 < 13 → atL S.1.1 (nI 0) = 40) := isCl_b (t := e.2.2) (by rw [hhd, ← he2])
      rw [Nat.add_sub_cancel_left] at hclv
      have hbv : gI g 1014 A.length = nI (j + 1) := by rw [hat.2.2.2, he2, show bN (some (1048576 + j)) = j + 1 from by show 1048576 + j - 1048575 = j + 1; omega]
      by_cases h40 : atL S.1.1 (nI 0) = 40
      · have hclt : isCl S tk = true := by rw [hclv]; exact decide_eq_true (fun _ => h40)
        by_cases c13 : j < 13
        · skip
          refine v_aload_n X (dk D_Rf_handle 0 rfl) rfl ?_
          refine v_getI X (dk D_Rf_handle 1 rfl) F_Rf_126 rfl rfl (hS.lt (by decide)) ?_
          refine v_iconst (v := 3) X (dk D_Rf_handle 2 rfl) (by decide) ?_
          refine v_icmp_ne (tgt := 24) X (dk D_Rf_handle 3 rfl) (by decide) (fun c5 => absurd (hkd.trans hk3) c5) (fun _ => ?_)
          refine v_aload_n X (dk D_Rf_handle 4 rfl) rfl ?_
          refine v_aload_n X (dk D_Rf_handle 5 rfl) rfl ?_
          refine v_getF X (dk D_Rf_handle 6 rfl) F_Rf_27 rfl rfl (hS.lt (by decide)) (hS.2 1003 17) ?_
          refine v_iconst (v := nI 0) X (dk D_Rf_handle 7 rfl) (by decide) ?_
          refine v_aload_n X (dk D_Rf_handle 8 rfl) rfl ?_
          refine v_getI X (dk D_Rf_handle 9 rfl) F_Rf_109 rfl rfl (hS.lt (by decide)) ?_
          rw [hTK.1]
          refine v_invV (As := [.ref 1009, .int (nI 0), .int (nI tk.length)]) (st := []) X (r_top l q (r := 1009) (N := 32768) (p := 0) (ys := tk) hS hM rfl (hS.lt (by decide)) (by decide) (by have := hTK.2.2; omega) hTK.2.1) (dk D_Rf_handle 10 rfl) G_Rf_232 K_Rf_top V_Rf_top rfl rfl (hS.lt (by decide)) rfl rfl (Nat.le_of_ble_eq_true rfl) (by dsimp only [rmT]; omega) (by dsimp only [rmT]; omega) (Nat.le_of_ble_eq_true rfl) (Nat.le_of_ble_eq_true rfl) ?_
          rintro v ws ⟨rfl, hws⟩
          rw [hws, htp]
          show Vv _ _ _ _ _ _ _ _ _ _ _ _ _ _ _ [.int (nI A.length)] (0, 0, g)
          refine v_goto (tgt := 25) X (dk D_Rf_handle 11 rfl) (by decide) ?_
          refine v_istore_n (lb := [some (.ref 1003), some (.int (icN S.2.2.1.1)), some (.int (nI A.length)), none, none, none, none, none]) X (dk D_Rf_handle 13 rfl) (by decide) rfl ?_
          refine v_aload_n X (dk D_Rf_handle 14 rfl) rfl ?_
          refine v_iconst (v := nI 0) X (dk D_Rf_handle 15 rfl) (by decide) ?_
          refine v_invV (As := [.int (nI 0)]) (st := []) X (r_peek l q (k := 0) hS hZ.2.1 (by decide)) (dk D_Rf_handle 16 rfl) G_Rf_101 K_Rf_peek V_Rf_peek rfl rfl (hS.lt (by decide)) rfl rfl (Nat.le_of_ble_eq_true rfl) (by dsimp only [rmT]; omega) (by dsimp only [rmT]; omega) (Nat.le_of_ble_eq_true rfl) (Nat.le_of_ble_eq_true rfl) ?_
          rintro v ws ⟨rfl, hws⟩
          rw [hws]
          show Vv _ _ _ _ _ _ _ _ _ _ _ _ _ _ _ [.int (atL S.1.1 (nI 0))] (0, 0, g)
          refine v_bipush (v := 40) X (dk D_Rf_handle 17 rfl) (by decide) ?_
          refine v_icmp_ne (tgt := 40) X (dk D_Rf_handle 18 rfl) (by decide) (fun c33 => absurd h40 c33) (fun _ => ?_)
          refine v_iconst (v := 1) X (dk D_Rf_handle 19 rfl) (by decide) ?_
          refine v_goto (tgt := 41) X (dk D_Rf_handle 20 rfl) (by decide) ?_
          refine v_istore_n (lb := [some (.ref 1003), some (.int (icN S.2.2.1.1)), some (.int (nI A.length)), some (.int 1), none, none, none, none]) X (dk D_Rf_handle 22 rfl) (by decide) rfl ?_
          refine v_iload_n X (dk D_Rf_handle 23 rfl) rfl ?_
          refine v_if_lt (tgt := 70) X (dk D_Rf_handle 24 rfl) (by decide) (fun c43 => absurd c43 (nI_pos (by omega))) (fun _ => ?_)
          refine v_aload_n X (dk D_Rf_handle 25 rfl) rfl ?_
          refine v_getF X (dk D_Rf_handle 26 rfl) F_Rf_43 rfl rfl (hS.lt (by decide)) (hS.2 1003 25) ?_
          refine v_iload_n X (dk D_Rf_handle 27 rfl) rfl ?_
          refine v_iald X (dk D_Rf_handle 28 rfl) rfl (hS.lt (by decide)) (vp_in_nI (show A.length < 340 by omega) (by decide)) ?_
          refine v_if_le (tgt := 76) X (dk D_Rf_handle 29 rfl) (by decide) (fun c52 => absurd c52 (by rw [nI_clamp (by omega), hbv]; exact fun z => absurd ((nI_leI (b := 0) (by omega) (by decide)).mp z) (by omega))) (fun _ => ?_)
          refine v_aload_n X (dk D_Rf_handle 30 rfl) rfl ?_
          refine v_getF X (dk D_Rf_handle 31 rfl) F_Rf_43 rfl rfl (hS.lt (by decide)) (hS.2 1003 25) ?_
          refine v_iload_n X (dk D_Rf_handle 32 rfl) rfl ?_
          refine v_iald X (dk D_Rf_handle 33 rfl) rfl (hS.lt (by decide)) (vp_in_nI (show A.length < 340 by omega) (by decide)) ?_
          refine v_bipush (v := 13) X (dk D_Rf_handle 34 rfl) (by decide) ?_
          refine v_icmp_gt (tgt := 76) X (dk D_Rf_handle 35 rfl) (by decide) (fun c63 => absurd c63 (by rw [nI_clamp (by omega), hbv]; exact fun z => absurd ((nI_ltI (a := 13) (by decide) (by omega)).mp z) (by omega))) (fun _ => ?_)
          refine v_iload_n X (dk D_Rf_handle 36 rfl) rfl ?_
          refine v_if_ne (tgt := 76) X (dk D_Rf_handle 37 rfl) (by decide) (fun _ => ?_) (fun c67 => absurd c67 (by decide))
          have hc76 := call hk3 (hclt) (nI A.length); rw [if_pos h40] at hc76; exact hc76
        · skip
          refine v_aload_n X (dk D_Rf_handle 0 rfl) rfl ?_
          refine v_getI X (dk D_Rf_handle 1 rfl) F_Rf_126 rfl rfl (hS.lt (by decide)) ?_
          refine v_iconst (v := 3) X (dk D_Rf_handle 2 rfl) (by decide) ?_
          refine v_icmp_ne (tgt := 24) X (dk D_Rf_handle 3 rfl) (by decide) (fun c5 => absurd (hkd.trans hk3) c5) (fun _ => ?_)
          refine v_aload_n X (dk D_Rf_handle 4 rfl) rfl ?_
          refine v_aload_n X (dk D_Rf_handle 5 rfl) rfl ?_
          refine v_getF X (dk D_Rf_handle 6 rfl) F_Rf_27 rfl rfl (hS.lt (by decide)) (hS.2 1003 17) ?_
          refine v_iconst (v := nI 0) X (dk D_Rf_handle 7 rfl) (by decide) ?_
          refine v_aload_n X (dk D_Rf_handle 8 rfl) rfl ?_
          refine v_getI X (dk D_Rf_handle 9 rfl) F_Rf_109 rfl rfl (hS.lt (by decide)) ?_
          rw [hTK.1]
          refine v_invV (As := [.ref 1009, .int (nI 0), .int (nI tk.length)]) (st := []) X (r_top l q (r := 1009) (N := 32768) (p := 0) (ys := tk) hS hM rfl (hS.lt (by decide)) (by decide) (by have := hTK.2.2; omega) hTK.2.1) (dk D_Rf_handle 10 rfl) G_Rf_232 K_Rf_top V_Rf_top rfl rfl (hS.lt (by decide)) rfl rfl (Nat.le_of_ble_eq_true rfl) (by dsimp only [rmT]; omega) (by dsimp only [rmT]; omega) (Nat.le_of_ble_eq_true rfl) (Nat.le_of_ble_eq_true rfl) ?_
          rintro v ws ⟨rfl, hws⟩
          rw [hws, htp]
          show Vv _ _ _ _ _ _ _ _ _ _ _ _ _ _ _ [.int (nI A.length)] (0, 0, g)
          refine v_goto (tgt := 25) X (dk D_Rf_handle 11 rfl) (by decide) ?_
          refine v_istore_n (lb := [some (.ref 1003), some (.int (icN S.2.2.1.1)), some (.int (nI A.length)), none, none, none, none, none]) X (dk D_Rf_handle 13 rfl) (by decide) rfl ?_
          refine v_aload_n X (dk D_Rf_handle 14 rfl) rfl ?_
          refine v_iconst (v := nI 0) X (dk D_Rf_handle 15 rfl) (by decide) ?_
          refine v_invV (As := [.int (nI 0)]) (st := []) X (r_peek l q (k := 0) hS hZ.2.1 (by decide)) (dk D_Rf_handle 16 rfl) G_Rf_101 K_Rf_peek V_Rf_peek rfl rfl (hS.lt (by decide)) rfl rfl (Nat.le_of_ble_eq_true rfl) (by dsimp only [rmT]; omega) (by dsimp only [rmT]; omega) (Nat.le_of_ble_eq_true rfl) (Nat.le_of_ble_eq_true rfl) ?_
          rintro v ws ⟨rfl, hws⟩
          rw [hws]
          show Vv _ _ _ _ _ _ _ _ _ _ _ _ _ _ _ [.int (atL S.1.1 (nI 0))] (0, 0, g)
          refine v_bipush (v := 40) X (dk D_Rf_handle 17 rfl) (by decide) ?_
          refine v_icmp_ne (tgt := 40) X (dk D_Rf_handle 18 rfl) (by decide) (fun c33 => absurd h40 c33) (fun _ => ?_)
          refine v_iconst (v := 1) X (dk D_Rf_handle 19 rfl) (by decide) ?_
          refine v_goto (tgt := 41) X (dk D_Rf_handle 20 rfl) (by decide) ?_
          refine v_istore_n (lb := [some (.ref 1003), some (.int (icN S.2.2.1.1)), some (.int (nI A.length)), some (.int 1), none, none, none, none]) X (dk D_Rf_handle 22 rfl) (by decide) rfl ?_
          refine v_iload_n X (dk D_Rf_handle 23 rfl) rfl ?_
          refine v_if_lt (tgt := 70) X (dk D_Rf_handle 24 rfl) (by decide) (fun c43 => absurd c43 (nI_pos (by omega))) (fun _ => ?_)
          refine v_aload_n X (dk D_Rf_handle 25 rfl) rfl ?_
          refine v_getF X (dk D_Rf_handle 26 rfl) F_Rf_43 rfl rfl (hS.lt (by decide)) (hS.2 1003 25) ?_
          refine v_iload_n X (dk D_Rf_handle 27 rfl) rfl ?_
          refine v_iald X (dk D_Rf_handle 28 rfl) rfl (hS.lt (by decide)) (vp_in_nI (show A.length < 340 by omega) (by decide)) ?_
          refine v_if_le (tgt := 76) X (dk D_Rf_handle 29 rfl) (by decide) (fun c52 => absurd c52 (by rw [nI_clamp (by omega), hbv]; exact fun z => absurd ((nI_leI (b := 0) (by omega) (by decide)).mp z) (by omega))) (fun _ => ?_)
          refine v_aload_n X (dk D_Rf_handle 30 rfl) rfl ?_
          refine v_getF X (dk D_Rf_handle 31 rfl) F_Rf_43 rfl rfl (hS.lt (by decide)) (hS.2 1003 25) ?_
          refine v_iload_n X (dk D_Rf_handle 32 rfl) rfl ?_
          refine v_iald X (dk D_Rf_handle 33 rfl) rfl (hS.lt (by decide)) (vp_in_nI (show A.length < 340 by omega) (by decide)) ?_
          refine v_bipush (v := 13) X (dk D_Rf_handle 34 rfl) (by decide) ?_
          refine v_icmp_gt (tgt := 76) X (dk D_Rf_handle 35 rfl) (by decide) (fun _ => ?_) (fun c63 => absurd (by rw [nI_clamp (by omega), hbv]; exact nI_lt (a := 13) (by omega) (by omega)) c63)
          have hc76 := call hk3 (hclt) (nI A.length); rw [if_pos h40] at hc76; exact hc76
      · by_cases c13 : j < 13
        · have hncl : ¬ isCl S tk = true := by rw [hclv]; exact fun z => h40 (of_decide_eq_true z c13)
          refine v_aload_n X (dk D_Rf_handle 0 rfl) rfl ?_
          refine v_getI X (dk D_Rf_handle 1 rfl) F_Rf_126 rfl rfl (hS.lt (by decide)) ?_
          refine v_iconst (v := 3) X (dk D_Rf_handle 2 rfl) (by decide) ?_
          refine v_icmp_ne (tgt := 24) X (dk D_Rf_handle 3 rfl) (by decide) (fun c5 => absurd (hkd.trans hk3) c5) (fun _ => ?_)
          refine v_aload_n X (dk D_Rf_handle 4 rfl) rfl ?_
          refine v_aload_n X (dk D_Rf_handle 5 rfl) rfl ?_
          refine v_getF X (dk D_Rf_handle 6 rfl) F_Rf_27 rfl rfl (hS.lt (by decide)) (hS.2 1003 17) ?_
          refine v_iconst (v := nI 0) X (dk D_Rf_handle 7 rfl) (by decide) ?_
          refine v_aload_n X (dk D_Rf_handle 8 rfl) rfl ?_
          refine v_getI X (dk D_Rf_handle 9 rfl) F_Rf_109 rfl rfl (hS.lt (by decide)) ?_
          rw [hTK.1]
          refine v_invV (As := [.ref 1009, .int (nI 0), .int (nI tk.length)]) (st := []) X (r_top l q (r := 1009) (N := 32768) (p := 0) (ys := tk) hS hM rfl (hS.lt (by decide)) (by decide) (by have := hTK.2.2; omega) hTK.2.1) (dk D_Rf_handle 10 rfl) G_Rf_232 K_Rf_top V_Rf_top rfl rfl (hS.lt (by decide)) rfl rfl (Nat.le_of_ble_eq_true rfl) (by dsimp only [rmT]; omega) (by dsimp only [rmT]; omega) (Nat.le_of_ble_eq_true rfl) (Nat.le_of_ble_eq_true rfl) ?_
          rintro v ws ⟨rfl, hws⟩
          rw [hws, htp]
          show Vv _ _ _ _ _ _ _ _ _ _ _ _ _ _ _ [.int (nI A.length)] (0, 0, g)
          refine v_goto (tgt := 25) X (dk D_Rf_handle 11 rfl) (by decide) ?_
          refine v_istore_n (lb := [some (.ref 1003), some (.int (icN S.2.2.1.1)), some (.int (nI A.length)), none, none, none, none, none]) X (dk D_Rf_handle 13 rfl) (by decide) rfl ?_
          refine v_aload_n X (dk D_Rf_handle 14 rfl) rfl ?_
          refine v_iconst (v := nI 0) X (dk D_Rf_handle 15 rfl) (by decide) ?_
          refine v_invV (As := [.int (nI 0)]) (st := []) X (r_peek l q (k := 0) hS hZ.2.1 (by decide)) (dk D_Rf_handle 16 rfl) G_Rf_101 K_Rf_peek V_Rf_peek rfl rfl (hS.lt (by decide)) rfl rfl (Nat.le_of_ble_eq_true rfl) (by dsimp only [rmT]; omega) (by dsimp only [rmT]; omega) (Nat.le_of_ble_eq_true rfl) (Nat.le_of_ble_eq_true rfl) ?_
          rintro v ws ⟨rfl, hws⟩
          rw [hws]
          show Vv _ _ _ _ _ _ _ _ _ _ _ _ _ _ _ [.int (atL S.1.1 (nI 0))] (0, 0, g)
          refine v_bipush (v := 40) X (dk D_Rf_handle 17 rfl) (by decide) ?_
          refine v_icmp_ne (tgt := 40) X (dk D_Rf_handle 18 rfl) (by decide) (fun _ => ?_) (fun c33 => absurd c33 h40)
          refine v_iconst (v := 0) X (dk D_Rf_handle 21 rfl) (by decide) ?_
          refine v_istore_n (lb := [some (.ref 1003), some (.int (icN S.2.2.1.1)), some (.int (nI A.length)), some (.int 0), none, none, none, none]) X (dk D_Rf_handle 22 rfl) (by decide) rfl ?_
          refine v_iload_n X (dk D_Rf_handle 23 rfl) rfl ?_
          refine v_if_lt (tgt := 70) X (dk D_Rf_handle 24 rfl) (by decide) (fun c43 => absurd c43 (nI_pos (by omega))) (fun _ => ?_)
          refine v_aload_n X (dk D_Rf_handle 25 rfl) rfl ?_
          refine v_getF X (dk D_Rf_handle 26 rfl) F_Rf_43 rfl rfl (hS.lt (by decide)) (hS.2 1003 25) ?_
          refine v_iload_n X (dk D_Rf_handle 27 rfl) rfl ?_
          refine v_iald X (dk D_Rf_handle 28 rfl) rfl (hS.lt (by decide)) (vp_in_nI (show A.length < 340 by omega) (by decide)) ?_
          refine v_if_le (tgt := 76) X (dk D_Rf_handle 29 rfl) (by decide) (fun c52 => absurd c52 (by rw [nI_clamp (by omega), hbv]; exact fun z => absurd ((nI_leI (b := 0) (by omega) (by decide)).mp z) (by omega))) (fun _ => ?_)
          refine v_aload_n X (dk D_Rf_handle 30 rfl) rfl ?_
          refine v_getF X (dk D_Rf_handle 31 rfl) F_Rf_43 rfl rfl (hS.lt (by decide)) (hS.2 1003 25) ?_
          refine v_iload_n X (dk D_Rf_handle 32 rfl) rfl ?_
          refine v_iald X (dk D_Rf_handle 33 rfl) rfl (hS.lt (by decide)) (vp_in_nI (show A.length < 340 by omega) (by decide)) ?_
          refine v_bipush (v := 13) X (dk D_Rf_handle 34 rfl) (by decide) ?_
          refine v_icmp_gt (tgt := 76) X (dk D_Rf_handle 35 rfl) (by decide) (fun c63 => absurd c63 (by rw [nI_clamp (by omega), hbv]; exact fun z => absurd ((nI_ltI (a := 13) (by decide) (by omega)).mp z) (by omega))) (fun _ => ?_)
          refine v_iload_n X (dk D_Rf_handle 36 rfl) rfl ?_
          refine v_if_ne (tgt := 76) X (dk D_Rf_handle 37 rfl) (by decide) (fun c67 => absurd rfl c67) (fun _ => ?_)
          exact put (fun z => hncl z.2) _ _
        · have hclt : isCl S tk = true := by rw [hclv]; exact decide_eq_true (fun z => absurd z c13)
          refine v_aload_n X (dk D_Rf_handle 0 rfl) rfl ?_
          refine v_getI X (dk D_Rf_handle 1 rfl) F_Rf_126 rfl rfl (hS.lt (by decide)) ?_
          refine v_iconst (v := 3) X (dk D_Rf_handle 2 rfl) (by decide) ?_
          refine v_icmp_ne (tgt := 24) X (dk D_Rf_handle 3 rfl) (by decide) (fun c5 => absurd (hkd.trans hk3) c5) (fun _ => ?_)
          refine v_aload_n X (dk D_Rf_handle 4 rfl) rfl ?_
          refine v_aload_n X (dk D_Rf_handle 5 rfl) rfl ?_
          refine v_getF X (dk D_Rf_handle 6 rfl) F_Rf_27 rfl rfl (hS.lt (by decide)) (hS.2 1003 17) ?_
          refine v_iconst (v := nI 0) X (dk D_Rf_handle 7 rfl) (by decide) ?_
          refine v_aload_n X (dk D_Rf_handle 8 rfl) rfl ?_
          refine v_getI X (dk D_Rf_handle 9 rfl) F_Rf_109 rfl rfl (hS.lt (by decide)) ?_
          rw [hTK.1]
          refine v_invV (As := [.ref 1009, .int (nI 0), .int (nI tk.length)]) (st := []) X (r_top l q (r := 1009) (N := 32768) (p := 0) (ys := tk) hS hM rfl (hS.lt (by decide)) (by decide) (by have := hTK.2.2; omega) hTK.2.1) (dk D_Rf_handle 10 rfl) G_Rf_232 K_Rf_top V_Rf_top rfl rfl (hS.lt (by decide)) rfl rfl (Nat.le_of_ble_eq_true rfl) (by dsimp only [rmT]; omega) (by dsimp only [rmT]; omega) (Nat.le_of_ble_eq_true rfl) (Nat.le_of_ble_eq_true rfl) ?_
          rintro v ws ⟨rfl, hws⟩
          rw [hws, htp]
          show Vv _ _ _ _ _ _ _ _ _ _ _ _ _ _ _ [.int (nI A.length)] (0, 0, g)
          refine v_goto (tgt := 25) X (dk D_Rf_handle 11 rfl) (by decide) ?_
          refine v_istore_n (lb := [some (.ref 1003), some (.int (icN S.2.2.1.1)), some (.int (nI A.length)), none, none, none, none, none]) X (dk D_Rf_handle 13 rfl) (by decide) rfl ?_
          refine v_aload_n X (dk D_Rf_handle 14 rfl) rfl ?_
          refine v_iconst (v := nI 0) X (dk D_Rf_handle 15 rfl) (by decide) ?_
          refine v_invV (As := [.int (nI 0)]) (st := []) X (r_peek l q (k := 0) hS hZ.2.1 (by decide)) (dk D_Rf_handle 16 rfl) G_Rf_101 K_Rf_peek V_Rf_peek rfl rfl (hS.lt (by decide)) rfl rfl (Nat.le_of_ble_eq_true rfl) (by dsimp only [rmT]; omega) (by dsimp only [rmT]; omega) (Nat.le_of_ble_eq_true rfl) (Nat.le_of_ble_eq_true rfl) ?_
          rintro v ws ⟨rfl, hws⟩
          rw [hws]
          show Vv _ _ _ _ _ _ _ _ _ _ _ _ _ _ _ [.int (atL S.1.1 (nI 0))] (0, 0, g)
          refine v_bipush (v := 40) X (dk D_Rf_handle 17 rfl) (by decide) ?_
          refine v_icmp_ne (tgt := 40) X (dk D_Rf_handle 18 rfl) (by decide) (fun _ => ?_) (fun c33 => absurd c33 h40)
          refine v_iconst (v := 0) X (dk D_Rf_handle 21 rfl) (by decide) ?_
          refine v_istore_n (lb := [some (.ref 1003), some (.int (icN S.2.2.1.1)), some (.int (nI A.length)), some (.int 0), none, none, none, none]) X (dk D_Rf_handle 22 rfl) (by decide) rfl ?_
          refine v_iload_n X (dk D_Rf_handle 23 rfl) rfl ?_
          refine v_if_lt (tgt := 70) X (dk D_Rf_handle 24 rfl) (by decide) (fun c43 => absurd c43 (nI_pos (by omega))) (fun _ => ?_)
          refine v_aload_n X (dk D_Rf_handle 25 rfl) rfl ?_
          refine v_getF X (dk D_Rf_handle 26 rfl) F_Rf_43 rfl rfl (hS.lt (by decide)) (hS.2 1003 25) ?_
          refine v_iload_n X (dk D_Rf_handle 27 rfl) rfl ?_
          refine v_iald X (dk D_Rf_handle 28 rfl) rfl (hS.lt (by decide)) (vp_in_nI (show A.length < 340 by omega) (by decide)) ?_
          refine v_if_le (tgt := 76) X (dk D_Rf_handle 29 rfl) (by decide) (fun c52 => absurd c52 (by rw [nI_clamp (by omega), hbv]; exact fun z => absurd ((nI_leI (b := 0) (by omega) (by decide)).mp z) (by omega))) (fun _ => ?_)
          refine v_aload_n X (dk D_Rf_handle 30 rfl) rfl ?_
          refine v_getF X (dk D_Rf_handle 31 rfl) F_Rf_43 rfl rfl (hS.lt (by decide)) (hS.2 1003 25) ?_
          refine v_iload_n X (dk D_Rf_handle 32 rfl) rfl ?_
          refine v_iald X (dk D_Rf_handle 33 rfl) rfl (hS.lt (by decide)) (vp_in_nI (show A.length < 340 by omega) (by decide)) ?_
          refine v_bipush (v := 13) X (dk D_Rf_handle 34 rfl) (by decide) ?_
          refine v_icmp_gt (tgt := 76) X (dk D_Rf_handle 35 rfl) (by decide) (fun _ => ?_) (fun c63 => absurd (by rw [nI_clamp (by omega), hbv]; exact nI_lt (a := 13) (by omega) (by omega)) c63)
          have hc76 := call hk3 (hclt) (nI A.length); rw [if_neg h40] at hc76; exact hc76
theorem r_handle (l : Launch) (q : ev_T) : ∀ (k c : Nat), c + k = 50 → HC l q c (2 * k + 67) := by
  intro k
  induction k with
  | zero => intro c hc; exact r_handle1 l q (fun z => by omega) (by omega)
  | succ k ih => intro c hc; exact r_handle1 l q (fun _ => ⟨2 * k + 67 + 1, by omega, r_readArguments l q (ih (c + 1) (by omega)) (by omega)⟩) (by omega)
