/-! Calls: the writing methods -/
theorem frOK.below {g k : mu_T} : ∀ {fs : List Fr}, (∀ i, i < fs.length → gI k 21 i = gI g 21 i ∧ gI k 22 i = gI g 22 i ∧ gI k 23 i = gI g 23 i ∧ gI k 24 i = gI g 24 i) → (∀ i, i < na fs → gI k 20 i = gI g 20 i) → frOK g fs → frOK k fs
  | [], _, _, _ => trivial
  | f :: r, h1, h2, ⟨a, b, c, d, e, n, x⟩ => by
    obtain ⟨y1, y2, y3, y4⟩ := h1 r.length (by simp)
    refine ⟨by rw [y1]; exact a, by rw [y2]; exact b, by rw [y3]; exact c, fun hn => by rw [y4]; exact d hn, fun j hj => by rw [h2 _ (by simp only [na]; omega)]; exact e j hj, n, frOK.below (fun i hi => h1 i (by simp; omega)) (fun i hi => h2 i (by simp only [na]; omega)) x⟩
theorem k_cutN (l : Launch) (q : ev_T) {b r n m : Nat} {xs : List Int32} {ov : Bool} {g : mu_T} (hB : RB g b r n xs ov) (hm : m ≤ xs.length) : Ctr l q M_By_cut 0 [.ref b, .int (nI m)] (0, 0, g) (fun v w => v = none ∧ sm g w.2.2 [b] ∧ RB w.2.2 b r n (xs.take m) false) :=
  (c_By_cut l q hB.1).weak fun v w h => by
    have hl := hB.lt
    have hne := hB.1.ne
    obtain ⟨h1, h2, h3, h4, h5⟩ := hB
    have hc : (0 : Int32) ≤ nI m ∧ nI m ≤ gI g b 1 := ⟨nI_pos' (by omega), by rw [h3]; exact nI_le hm (by omega)⟩
    have z : sm g w.2.2 [b] := by
      rw [h.2, if_pos hc]
      exact ((sm.rf g [b]).xI (by simp)).xI (by simp)
    refine ⟨h.1, z, h1.sm z, by rw [List.length_take]; omega, ?_, ?_, fun j hj => ?_⟩
    · rw [h.2, if_pos hc, List.length_take, Nat.min_eq_left hm]
      exact (gI_nk (by decide)).trans (gI_eq _ _ _ _)
    · rw [h.2]; exact gI_eq _ _ _ _
    · rw [List.length_take] at hj
      rw [z.I (by simp [Ne.symm hne]), h5 j (by omega)]
      simp only [List.getD_eq_getElem?_getD]
      rw [List.getElem?_take, if_pos (by omega)]
theorem z9 {g k : mu_T} (h : sm g k [18]) : sm g (xI (xI (xI k 17 1 0) 17 2 0) 17 4 0) CS := (((h.mono (U := CS) (by decide)).xI (by decide)).xI (by decide)).xI (by decide)
set_option maxHeartbeats 4000000 in
set_option maxRecDepth 100000 in
theorem k_Ca_forget (l : Launch) (q : ev_T) {xs : List Int32} {ov : Bool} {g : mu_T} (hS : Shp g) (hB : RB g 18 19 16384 xs ov) : Ctr l q M_Ca_forget 1 [.ref 17] (0, 0, g) (fun v w => v = none ∧ sm g w.2.2 CS ∧ CA w.2.2 [] false) := by

  refine Ctr.mk (lb := [some (.ref 17)]) (by decide +kernel) (Nat.le_of_ble_eq_true rfl) rfl rfl ?_
  intro pp ee ss mm aa bb mt cd X hrt hlk hnm
  refine v_aload_n X (dk D_Ca_forget 0 rfl) rfl ?_
  refine v_getF X (dk D_Ca_forget 1 rfl) F_Ca_14 rfl rfl (hS.lt (by decide)) (hS.2 17 0) ?_
  refine v_iconst (v := 0) X (dk D_Ca_forget 2 rfl) (by decide) ?_
  refine v_invV (As := [.int 0]) (st := []) X (k_cut0 l q hB) (dk D_Ca_forget 3 rfl) G_Ca_37 K_By_cut V_By_cut rfl rfl (hS.lt (by decide)) rfl rfl (Nat.le_of_ble_eq_true rfl) (Nat.le_of_ble_eq_true rfl) (Nat.le_of_ble_eq_true rfl) (Nat.le_of_ble_eq_true rfl) (Nat.le_of_ble_eq_true rfl) ?_
  rintro v w ⟨rfl, hw1, hw2⟩
  have hS0 := hS
  have hS := hS0.sm hw1
  show Vv _ _ _ _ _ _ _ _ _ _ _ _ _ _ _ [] (0, 0, w.2.2)
  refine v_aload_n X (dk D_Ca_forget 4 rfl) rfl ?_
  refine v_iconst (v := 0) X (dk D_Ca_forget 5 rfl) (by decide) ?_
  refine v_putI X (dk D_Ca_forget 6 rfl) F_Ca_40 CK_Ca rfl rfl (hS.lt (by decide)) rfl rfl ?_
  refine v_aload_n X (dk D_Ca_forget 7 rfl) rfl ?_
  refine v_iconst (v := 0) X (dk D_Ca_forget 8 rfl) (by decide) ?_
  refine v_putI X (dk D_Ca_forget 9 rfl) F_Ca_44 CK_Ca rfl rfl (hS.lt (by decide)) rfl rfl ?_
  refine v_aload_n X (dk D_Ca_forget 10 rfl) rfl ?_
  refine v_iconst (v := 0) X (dk D_Ca_forget 11 rfl) (by decide) ?_
  refine v_putI X (dk D_Ca_forget 12 rfl) F_Ca_48 CK_Ca rfl rfl (hS.lt (by decide)) rfl rfl ?_
  exact v_vret X hlk hrt (dk D_Ca_forget 13 rfl) ⟨rfl, z9 hw1, RB.sm hw2 (((sm.rf _ [17]).xI (by simp)).xI (by simp) |>.xI (by simp)) (by decide) (by decide), by rw [gI_nk (by decide), gI_nk (by decide), gI_eq]; rfl, by decide, by rw [gI_nk (by decide), gI_eq]; rfl, gI_eq _ _ _ _, by decide, trivial⟩
theorem n_tok {f : Fr} {r : List Fr} {cm : Bool} {g : mu_T} (hC : CA g (f :: r) cm) (hne : f.2.1 ≠ []) : sm g (xI g 24 r.length (1 &&& 1)) CS ∧ CA (xI g 24 r.length (1 &&& 1)) ((f.1, f.2.1, f.2.2.1, true) :: r) cm := by
  obtain ⟨a, b, c, d, e, n, o1, o2, o3, o4, o5, o6, o7⟩ := hC
  have z : sm g (xI g 24 r.length (1 &&& 1)) [24] := (sm.rf g _).xI (by simp)
  refine ⟨z.mono (by decide), a.sm z (by decide) (by decide), b, c, d, e, n, ?_, ?_, ?_, fun _ => gI_eq _ _ _ _, fun j hj => ?_, o6, o7.below (fun i hi => ⟨?_, ?_, ?_, ?_⟩) (fun i hi => ?_)⟩
  · rw [z.I (by decide)]; exact o1
  · rw [z.I (by decide)]; exact o2
  · rw [z.I (by decide)]; exact o3
  · rw [z.I (by decide)]; exact o5 j hj
  · exact z.I (by decide) i
  · exact z.I (by decide) i
  · exact z.I (by decide) i
  · exact gI_nk (by omega)
  · exact z.I (by decide) i
set_option maxHeartbeats 4000000 in
set_option maxRecDepth 100000 in
theorem k_noteToken (l : Launch) (q : ev_T) {f : Fr} {r : List Fr} {cm : Bool} {g : mu_T} (hS : Shp g) (hC : CA g (f :: r) cm) (hne : f.2.1 ≠ []) : Ctr l q M_Ca_noteToken 1 [.ref 17] (0, 0, g) (fun v w => v = none ∧ sm g w.2.2 CS ∧ CA w.2.2 ((f.1, f.2.1, f.2.2.1, true) :: r) cm) := by
  have hop : gI g 17 1 = nI (r.length + 1) := hC.2.1
  have h50 : r.length + 1 ≤ 50 := hC.2.2.1
  obtain ⟨o1, o2, o3, o4, o5, o6, o7⟩ := hC.2.2.2.2.2.2
  have har : gI g 17 4 = nI (na r + f.2.1.length) := hC.2.2.2.2.1
  have hna : na r + f.2.1.length ≤ 8192 := hC.2.2.2.2.2.1
  have hcm := hC.2.2.2.1
  have hRB := hC.1
  refine Ctr.mk (lb := [some (.ref 17)]) (by decide +kernel) (Nat.le_of_ble_eq_true rfl) rfl rfl ?_
  intro pp ee ss mm aa bb mt cd X hrt hlk hnm
  refine v_aload_n X (dk D_Ca_noteToken 0 rfl) rfl ?_
  refine v_invV (As := []) (st := []) X (k_hasTop l q hS hC) (dk D_Ca_noteToken 1 rfl) G_Ca_62 K_Ca_hasTop V_Ca_hasTop rfl rfl (hS.lt (by decide)) rfl rfl (Nat.le_of_ble_eq_true rfl) (Nat.le_of_ble_eq_true rfl) (Nat.le_of_ble_eq_true rfl) (Nat.le_of_ble_eq_true rfl) (Nat.le_of_ble_eq_true rfl) ?_
  rintro v w ⟨rfl, hw⟩
  rw [hw, if_neg (List.cons_ne_nil _ _)]
  show Vv _ _ _ _ _ _ _ _ _ _ _ _ _ _ _ (.int 1 :: []) (0, 0, g)
  refine v_if_eq (tgt := 19) X (dk D_Ca_noteToken 2 rfl) (by decide) (fun c4 => absurd c4 (by decide)) (fun _ => ?_)
  refine v_aload_n X (dk D_Ca_noteToken 3 rfl) rfl ?_
  refine v_getF X (dk D_Ca_noteToken 4 rfl) F_Ca_33 rfl rfl (hS.lt (by decide)) (hS.2 17 8) ?_
  refine v_aload_n X (dk D_Ca_noteToken 5 rfl) rfl ?_
  refine v_getI X (dk D_Ca_noteToken 6 rfl) F_Ca_40 rfl rfl (hS.lt (by decide)) ?_
  refine v_iconst (v := 1) X (dk D_Ca_noteToken 7 rfl) (by decide) ?_
  refine v_isub X (dk D_Ca_noteToken 8 rfl) ?_
  rw [hop, show nI (r.length + 1) - 1 = nI r.length from pk_sub (b := 1) (by omega)]
  refine v_iconst (v := 1) X (dk D_Ca_noteToken 9 rfl) (by decide) ?_
  refine v_zast X (dk D_Ca_noteToken 10 rfl) rfl (hS.lt (by decide)) (vp_in_nI (show r.length < 50 by omega) (by decide)) rfl ?_
  exact v_vret X hlk hrt (dk D_Ca_noteToken 11 rfl) (by rw [nI_clamp (by omega)]; exact ⟨rfl, n_tok hC hne⟩)
set_option maxHeartbeats 4000000 in
set_option maxRecDepth 100000 in
theorem k_noteToken0 (l : Launch) (q : ev_T) {cm : Bool} {g : mu_T} (hS : Shp g) (hC : CA g [] cm) : Ctr l q M_Ca_noteToken 1 [.ref 17] (0, 0, g) (fun v w => v = none ∧ w.2.2 = g) := by

  refine Ctr.mk (lb := [some (.ref 17)]) (by decide +kernel) (Nat.le_of_ble_eq_true rfl) rfl rfl ?_
  intro pp ee ss mm aa bb mt cd X hrt hlk hnm
  refine v_aload_n X (dk D_Ca_noteToken 0 rfl) rfl ?_
  refine v_invV (As := []) (st := []) X (k_hasTop l q hS hC) (dk D_Ca_noteToken 1 rfl) G_Ca_62 K_Ca_hasTop V_Ca_hasTop rfl rfl (hS.lt (by decide)) rfl rfl (Nat.le_of_ble_eq_true rfl) (Nat.le_of_ble_eq_true rfl) (Nat.le_of_ble_eq_true rfl) (Nat.le_of_ble_eq_true rfl) (Nat.le_of_ble_eq_true rfl) ?_
  rintro v w ⟨rfl, hw⟩
  rw [hw, if_pos rfl]
  show Vv _ _ _ _ _ _ _ _ _ _ _ _ _ _ _ [.int 0] (0, 0, g)
  refine v_if_eq (tgt := 19) X (dk D_Ca_noteToken 2 rfl) (by decide) (fun _ => ?_) (fun c4 => absurd rfl c4)
  exact v_vret X hlk hrt (dk D_Ca_noteToken 11 rfl) ⟨rfl, rfl⟩
theorem n_nest {f : Fr} {r : List Fr} {cm c2 : Bool} {g : mu_T} {m : Nat} (hC : CA g (f :: r) cm) (hm : m < 1073741824) : sm g (xI (xI g 23 r.length (nI m)) 17 2 (if c2 = true then 1 else 0)) CS ∧ CA (xI (xI g 23 r.length (nI m)) 17 2 (if c2 = true then 1 else 0)) ((f.1, f.2.1, m, f.2.2.2) :: r) c2 := by
  obtain ⟨a, b, c, d, e, n, o1, o2, o3, o4, o5, o6, o7⟩ := hC
  have z : sm g (xI (xI g 23 r.length (nI m)) 17 2 (if c2 = true then 1 else 0)) [23, 17] := ((sm.rf g _).xI (by simp)).xI (by simp)
  refine ⟨z.mono (by decide), a.sm z (by decide) (by decide), (gI_nk (by decide)).trans b, c, gI_eq _ _ _ _, (gI_nk (by decide)).trans e, n, ?_, ?_, ?_, fun hn => ?_, fun j hj => ?_, hm, o7.below (fun i hi => ⟨?_, ?_, ?_, ?_⟩) (fun i hi => ?_)⟩
  · rw [z.I (by decide)]; exact o1
  · rw [z.I (by decide)]; exact o2
  · exact (gI_na (by decide)).trans (gI_eq _ _ _ _)
  · rw [z.I (by decide)]; exact o4 hn
  · rw [z.I (by decide)]; exact o5 j hj
  · exact z.I (by decide) i
  · exact z.I (by decide) i
  · exact (gI_na (by decide)).trans (gI_nk (by omega))
  · exact z.I (by decide) i
  · exact z.I (by decide) i
set_option maxHeartbeats 4000000 in
set_option maxRecDepth 100000 in
theorem k_nestUp (l : Launch) (q : ev_T) {f : Fr} {r : List Fr} {cm : Bool} {g : mu_T} (hS : Shp g) (hC : CA g (f :: r) cm) (hlim : f.2.2.1 < 1000000) : Ctr l q M_Ca_nest 1 [.ref 17, .int 1] (0, 0, g) (fun v w => v = none ∧ sm g w.2.2 CS ∧ CA w.2.2 ((f.1, f.2.1, f.2.2.1 + 1, f.2.2.2) :: r) (false)) := by
  have hop : gI g 17 1 = nI (r.length + 1) := hC.2.1
  have h50 : r.length + 1 ≤ 50 := hC.2.2.1
  obtain ⟨o1, o2, o3, o4, o5, o6, o7⟩ := hC.2.2.2.2.2.2
  have har : gI g 17 4 = nI (na r + f.2.1.length) := hC.2.2.2.2.1
  have hna : na r + f.2.1.length ≤ 8192 := hC.2.2.2.2.2.1
  have hcm := hC.2.2.2.1
  have hRB := hC.1
  refine Ctr.mk (lb := [some (.ref 17), some (.int 1)]) (by decide +kernel) (Nat.le_of_ble_eq_true rfl) rfl rfl ?_
  intro pp ee ss mm aa bb mt cd X hrt hlk hnm
  refine v_aload_n X (dk D_Ca_nest 0 rfl) rfl ?_
  refine v_invV (As := []) (st := []) X (k_hasTop l q hS hC) (dk D_Ca_nest 1 rfl) G_Ca_62 K_Ca_hasTop V_Ca_hasTop rfl rfl (hS.lt (by decide)) rfl rfl (Nat.le_of_ble_eq_true rfl) (Nat.le_of_ble_eq_true rfl) (Nat.le_of_ble_eq_true rfl) (Nat.le_of_ble_eq_true rfl) (Nat.le_of_ble_eq_true rfl) ?_
  rintro v w ⟨rfl, hw⟩
  rw [hw, if_neg (List.cons_ne_nil _ _)]
  show Vv _ _ _ _ _ _ _ _ _ _ _ _ _ _ _ (.int 1 :: []) (0, 0, g)
  refine v_if_eq (tgt := 45) X (dk D_Ca_nest 2 rfl) (by decide) (fun c4 => absurd c4 (by decide)) (fun _ => ?_)
  refine v_aload_n X (dk D_Ca_nest 3 rfl) rfl ?_
  refine v_getF X (dk D_Ca_nest 4 rfl) F_Ca_30 rfl rfl (hS.lt (by decide)) (hS.2 17 7) ?_
  refine v_aload_n X (dk D_Ca_nest 5 rfl) rfl ?_
  refine v_getI X (dk D_Ca_nest 6 rfl) F_Ca_40 rfl rfl (hS.lt (by decide)) ?_
  refine v_iconst (v := 1) X (dk D_Ca_nest 7 rfl) (by decide) ?_
  refine v_isub X (dk D_Ca_nest 8 rfl) ?_
  rw [hop, show nI (r.length + 1) - 1 = nI r.length from pk_sub (b := 1) (by omega)]
  refine v_dup2 X (dk D_Ca_nest 9 rfl) rfl rfl ?_
  refine v_iald X (dk D_Ca_nest 10 rfl) rfl (hS.lt (by decide)) (vp_in_nI (show r.length < 50 by omega) (by decide)) ?_
  refine v_iload_n X (dk D_Ca_nest 11 rfl) rfl ?_
  refine v_iadd X (dk D_Ca_nest 12 rfl) ?_
  rw [nI_clamp (by omega), o3, nI_1]
  refine v_iast X (dk D_Ca_nest 13 rfl) rfl (hS.lt (by decide)) (vp_in_nI (show r.length < 50 by omega) (by decide)) ?_
  rw [nI_clamp (by omega)]
  refine v_aload_n X (dk D_Ca_nest 14 rfl) rfl ?_
  refine v_aload_n X (dk D_Ca_nest 15 rfl) rfl ?_
  refine v_getF X (dk D_Ca_nest 16 rfl) F_Ca_30 rfl rfl (hS.lt (by decide)) (hS.2 17 7) ?_
  refine v_aload_n X (dk D_Ca_nest 17 rfl) rfl ?_
  refine v_getI X (dk D_Ca_nest 18 rfl) F_Ca_40 rfl rfl (hS.lt (by decide)) ?_
  refine v_iconst (v := 1) X (dk D_Ca_nest 19 rfl) (by decide) ?_
  refine v_isub X (dk D_Ca_nest 20 rfl) ?_
  rw [gI_na (by decide), hop, show nI (r.length + 1) - 1 = nI r.length from pk_sub (b := 1) (by omega)]
  refine v_iald X (dk D_Ca_nest 21 rfl) rfl (hS.lt (by decide)) (vp_in_nI (show r.length < 50 by omega) (by decide)) ?_
  rw [nI_clamp (by omega), gI_eq]
  refine v_if_ne (tgt := 41) X (dk D_Ca_nest 22 rfl) (by decide) (fun c34 => ?_) (fun c34 => ?_)
  · refine v_iconst (v := 0) X (dk D_Ca_nest 25 rfl) (by decide) ?_
    refine v_putI X (dk D_Ca_nest 26 rfl) F_Ca_44 CK_Ca rfl rfl (hS.lt (by decide)) rfl rfl ?_
    exact v_vret X hlk hrt (dk D_Ca_nest 27 rfl) ⟨rfl, n_nest (c2 := false) hC (by omega)⟩
  · refine v_iconst (v := 1) X (dk D_Ca_nest 23 rfl) (by decide) ?_
    refine v_goto (tgt := 42) X (dk D_Ca_nest 24 rfl) (by decide) ?_
    refine v_putI X (dk D_Ca_nest 26 rfl) F_Ca_44 CK_Ca rfl rfl (hS.lt (by decide)) rfl rfl ?_
    exact v_vret X hlk hrt (dk D_Ca_nest 27 rfl) (absurd c34 (nI_ne0 (Nat.succ_pos _) (by omega)))
set_option maxHeartbeats 4000000 in
set_option maxRecDepth 100000 in
theorem k_nestDown (l : Launch) (q : ev_T) {f : Fr} {r : List Fr} {cm : Bool} {g : mu_T} (hS : Shp g) (hC : CA g (f :: r) cm) (hpos : 0 < f.2.2.1) : Ctr l q M_Ca_nest 1 [.ref 17, .int (-1)] (0, 0, g) (fun v w => v = none ∧ sm g w.2.2 CS ∧ CA w.2.2 ((f.1, f.2.1, f.2.2.1 - 1, f.2.2.2) :: r) (decide (f.2.2.1 = 1))) := by
  have hop : gI g 17 1 = nI (r.length + 1) := hC.2.1
  have h50 : r.length + 1 ≤ 50 := hC.2.2.1
  obtain ⟨o1, o2, o3, o4, o5, o6, o7⟩ := hC.2.2.2.2.2.2
  have har : gI g 17 4 = nI (na r + f.2.1.length) := hC.2.2.2.2.1
  have hna : na r + f.2.1.length ≤ 8192 := hC.2.2.2.2.2.1
  have hcm := hC.2.2.2.1
  have hRB := hC.1
  refine Ctr.mk (lb := [some (.ref 17), some (.int (-1))]) (by decide +kernel) (Nat.le_of_ble_eq_true rfl) rfl rfl ?_
  intro pp ee ss mm aa bb mt cd X hrt hlk hnm
  refine v_aload_n X (dk D_Ca_nest 0 rfl) rfl ?_
  refine v_invV (As := []) (st := []) X (k_hasTop l q hS hC) (dk D_Ca_nest 1 rfl) G_Ca_62 K_Ca_hasTop V_Ca_hasTop rfl rfl (hS.lt (by decide)) rfl rfl (Nat.le_of_ble_eq_true rfl) (Nat.le_of_ble_eq_true rfl) (Nat.le_of_ble_eq_true rfl) (Nat.le_of_ble_eq_true rfl) (Nat.le_of_ble_eq_true rfl) ?_
  rintro v w ⟨rfl, hw⟩
  rw [hw, if_neg (List.cons_ne_nil _ _)]
  show Vv _ _ _ _ _ _ _ _ _ _ _ _ _ _ _ (.int 1 :: []) (0, 0, g)
  refine v_if_eq (tgt := 45) X (dk D_Ca_nest 2 rfl) (by decide) (fun c4 => absurd c4 (by decide)) (fun _ => ?_)
  refine v_aload_n X (dk D_Ca_nest 3 rfl) rfl ?_
  refine v_getF X (dk D_Ca_nest 4 rfl) F_Ca_30 rfl rfl (hS.lt (by decide)) (hS.2 17 7) ?_
  refine v_aload_n X (dk D_Ca_nest 5 rfl) rfl ?_
  refine v_getI X (dk D_Ca_nest 6 rfl) F_Ca_40 rfl rfl (hS.lt (by decide)) ?_
  refine v_iconst (v := 1) X (dk D_Ca_nest 7 rfl) (by decide) ?_
  refine v_isub X (dk D_Ca_nest 8 rfl) ?_
  rw [hop, show nI (r.length + 1) - 1 = nI r.length from pk_sub (b := 1) (by omega)]
  refine v_dup2 X (dk D_Ca_nest 9 rfl) rfl rfl ?_
  refine v_iald X (dk D_Ca_nest 10 rfl) rfl (hS.lt (by decide)) (vp_in_nI (show r.length < 50 by omega) (by decide)) ?_
  refine v_iload_n X (dk D_Ca_nest 11 rfl) rfl ?_
  refine v_iadd X (dk D_Ca_nest 12 rfl) ?_
  rw [nI_clamp (by omega), o3, sb_m1 hpos]
  refine v_iast X (dk D_Ca_nest 13 rfl) rfl (hS.lt (by decide)) (vp_in_nI (show r.length < 50 by omega) (by decide)) ?_
  rw [nI_clamp (by omega)]
  refine v_aload_n X (dk D_Ca_nest 14 rfl) rfl ?_
  refine v_aload_n X (dk D_Ca_nest 15 rfl) rfl ?_
  refine v_getF X (dk D_Ca_nest 16 rfl) F_Ca_30 rfl rfl (hS.lt (by decide)) (hS.2 17 7) ?_
  refine v_aload_n X (dk D_Ca_nest 17 rfl) rfl ?_
  refine v_getI X (dk D_Ca_nest 18 rfl) F_Ca_40 rfl rfl (hS.lt (by decide)) ?_
  refine v_iconst (v := 1) X (dk D_Ca_nest 19 rfl) (by decide) ?_
  refine v_isub X (dk D_Ca_nest 20 rfl) ?_
  rw [gI_na (by decide), hop, show nI (r.length + 1) - 1 = nI r.length from pk_sub (b := 1) (by omega)]
  refine v_iald X (dk D_Ca_nest 21 rfl) rfl (hS.lt (by decide)) (vp_in_nI (show r.length < 50 by omega) (by decide)) ?_
  rw [nI_clamp (by omega), gI_eq]
  refine v_if_ne (tgt := 41) X (dk D_Ca_nest 22 rfl) (by decide) (fun c34 => ?_) (fun c34 => ?_)
  · refine v_iconst (v := 0) X (dk D_Ca_nest 25 rfl) (by decide) ?_
    refine v_putI X (dk D_Ca_nest 26 rfl) F_Ca_44 CK_Ca rfl rfl (hS.lt (by decide)) rfl rfl ?_
    exact v_vret X hlk hrt (dk D_Ca_nest 27 rfl) ⟨rfl, by have hd : decide (f.2.2.1 = 1) = false := decide_eq_false (fun e => c34 (by rw [e]; rfl)); rw [hd]; exact n_nest (c2 := false) hC (by omega)⟩
  · refine v_iconst (v := 1) X (dk D_Ca_nest 23 rfl) (by decide) ?_
    refine v_goto (tgt := 42) X (dk D_Ca_nest 24 rfl) (by decide) ?_
    refine v_putI X (dk D_Ca_nest 26 rfl) F_Ca_44 CK_Ca rfl rfl (hS.lt (by decide)) rfl rfl ?_
    exact v_vret X hlk hrt (dk D_Ca_nest 27 rfl) ⟨rfl, by have hd : decide (f.2.2.1 = 1) = true := decide_eq_true (by rcases Nat.lt_or_ge 1 f.2.2.1 with z | z; exact absurd c34 (nI_ne0 (by omega) (by omega)); omega); rw [hd]; exact n_nest (c2 := true) hC (by omega)⟩
