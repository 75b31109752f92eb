/-! Calls: begin, beginArgument, end, hold -/
theorem n_room {n : Nat} {xs ys : List Int32} (h : xs.length + ys.length ≤ n) : (if false = true ∨ n < xs.length + ys.length then xs else xs ++ (ys.drop 0).take ys.length) = xs ++ ys ∧ (false || decide (n < xs.length + ys.length)) = false := by
  rw [if_neg (by intro e; rcases e with e | e; exact absurd e (by decide); omega), List.drop_zero, List.take_length]
  exact ⟨rfl, by rw [Bool.false_or]; exact decide_eq_false (by omega)⟩
theorem n_hold {nm : List Int32} {as : List (List Int32)} {a ys : List Int32} {m : Nat} {t cm : Bool} {r : List Fr} {g k : mu_T} (hC : CA g ((nm, as ++ [a], m, t) :: r) cm) (z : sm g k [18, 19]) (hk : RB k 18 19 16384 (hl ((nm, as ++ [a], m, t) :: r) ++ ys) false) : CA k ((nm, as ++ [a ++ ys], m, t) :: r) cm := by
  obtain ⟨q1, b, c, d, e, n, o1, o2, o3, o4, o5, o6, o7⟩ := hC
  refine ⟨?_, ?_, c, ?_, ?_, ?_, ?_, ?_, ?_, fun hn => ?_, fun j hj => ?_, o6, o7.sm z (by decide) (by decide) (by decide) (by decide) (by decide)⟩
  · have e : hl ((nm, as ++ [a ++ ys], m, t) :: r) = hl ((nm, as ++ [a], m, t) :: r) ++ ys := by simp [hl]
    rw [e]; exact hk
  · rw [z.I (by decide)]; exact b
  · rw [z.I (by decide)]; exact d
  · rw [z.I (by decide), e]; simp [na]
  · simp [na] at n ⊢; exact n
  · rw [z.I (by decide)]; exact o1
  · rw [z.I (by decide)]; exact o2
  · rw [z.I (by decide)]; exact o3
  · rw [z.I (by decide)]; exact o4 (by simp)
  · have hj' : j ≤ as.length := by simp at hj; omega
    rw [z.I (by decide), o5 j (by simp; omega)]
    show _ = nI ((hl r).length + nm.length + ((as ++ [a ++ ys]).take j).flatten.length)
    rw [List.take_append_of_le_length hj', List.take_append_of_le_length hj']
theorem n_begin {fs : List Fr} {ys : List Int32} {cm : Bool} {g k : mu_T} (hC : CA g fs cm) (h50 : fs.length < 50) (z : sm (xI (xI (xI (xI g 21 fs.length (nI (hl fs).length)) 22 fs.length (nI (na fs))) 23 fs.length 1) 17 1 (nI (fs.length + 1))) k [18, 19]) (hk : RB k 18 19 16384 (hl fs ++ ys) false) : CA k ((ys, [], 1, false) :: fs) cm := by
  obtain ⟨q1, b, c, d, e, n, o7⟩ := hC
  refine ⟨?_, ?_, h50, ?_, ?_, ?_, ?_, ?_, ?_, fun hn => absurd rfl hn, fun j hj => absurd hj (Nat.not_lt_zero _), (show 1 < 1073741824 by decide), ?_⟩
  · have e : hl ((ys, [], 1, false) :: fs) = hl fs ++ ys := by simp [hl]
    rw [e]; exact hk
  · rw [z.I (by decide), gI_eq]; rfl
  · rw [z.I (by decide), gI_nk (by decide), gI_na (by decide), gI_na (by decide), gI_na (by decide)]; exact d
  · rw [z.I (by decide), gI_nk (by decide), gI_na (by decide), gI_na (by decide), gI_na (by decide), e]; rfl
  · exact n
  · rw [z.I (by decide), gI_na (by decide), gI_na (by decide), gI_na (by decide), gI_eq]
  · rw [z.I (by decide), gI_na (by decide), gI_na (by decide), gI_eq]
  · rw [z.I (by decide), gI_na (by decide), gI_eq]; rfl
  · refine o7.below (fun i hi => ⟨?_, ?_, ?_, ?_⟩) (fun i hi => ?_)
    · rw [z.I (by decide), gI_na (by decide), gI_na (by decide), gI_na (by decide), gI_nk (by omega)]
    · rw [z.I (by decide), gI_na (by decide), gI_na (by decide), gI_nk (by omega), gI_na (by decide)]
    · rw [z.I (by decide), gI_na (by decide), gI_nk (by omega), gI_na (by decide), gI_na (by decide)]
    · rw [z.I (by decide), gI_na (by decide), gI_na (by decide), gI_na (by decide), gI_na (by decide)]
    · rw [z.I (by decide), gI_na (by decide), gI_na (by decide), gI_na (by decide), gI_na (by decide)]
theorem n_barg {f : Fr} {r : List Fr} {cm : Bool} {g : mu_T} (hC : CA g (f :: r) cm) (hn : na (f :: r) < 8192) : sm g (xI (xI (xI g 20 (na (f :: r)) (nI (hl (f :: r)).length)) 17 4 (nI (na (f :: r) + 1))) 24 r.length (0 &&& 1)) CS ∧ CA (xI (xI (xI g 20 (na (f :: r)) (nI (hl (f :: r)).length)) 17 4 (nI (na (f :: r) + 1))) 24 r.length (0 &&& 1)) ((f.1, f.2.1 ++ [[]], f.2.2.1, false) :: r) cm := by
  obtain ⟨q1, b, c, d, e, n, o1, o2, o3, o4, o5, o6, o7⟩ := hC
  have z : sm g (xI (xI (xI g 20 (na (f :: r)) (nI (hl (f :: r)).length)) 17 4 (nI (na (f :: r) + 1))) 24 r.length (0 &&& 1)) [20, 17, 24] := (((sm.rf g _).xI (by simp)).xI (by simp)).xI (by simp)
  have el : hl ((f.1, f.2.1 ++ [[]], f.2.2.1, false) :: r) = hl (f :: r) := by simp [hl]
  have en : na ((f.1, f.2.1 ++ [[]], f.2.2.1, false) :: r) = na (f :: r) + 1 := by simp [na]; omega
  refine ⟨z.mono (by decide), ?_, ?_, c, ?_, ?_, ?_, ?_, ?_, ?_, fun _ => gI_eq _ _ _ _, fun j hj => ?_, o6, ?_⟩
  · rw [el]; exact q1.sm z (by decide) (by decide)
  · rw [gI_na (by decide), gI_nk (by decide), gI_na (by decide)]; exact b
  · rw [gI_na (by decide), gI_nk (by decide), gI_na (by decide)]; exact d
  · rw [gI_na (by decide), gI_eq, en]
  · rw [en]; exact hn
  · rw [z.I (by decide)]; exact o1
  · rw [z.I (by decide)]; exact o2
  · rw [z.I (by decide)]; exact o3
  · show gI _ 20 (na r + j) = nI ((hl r).length + f.1.length + ((f.2.1 ++ [[]]).take j).flatten.length)
    have hj' : j < f.2.1.length + 1 := by simpa using hj
    rw [gI_na (by decide), gI_na (by decide)]
    rcases Nat.lt_or_ge j f.2.1.length with y | y
    · rw [gI_nk (by simp only [na]; omega), o5 j y, List.take_append_of_le_length (by omega)]
    · have ej : j = f.2.1.length := by omega
      rw [ej, show na r + f.2.1.length = na (f :: r) from rfl, gI_eq, List.take_append_of_le_length (Nat.le_refl _), List.take_length]
      simp only [hl, List.length_append]
      rw [Nat.add_assoc]
  · refine o7.below (fun i hi => ⟨?_, ?_, ?_, ?_⟩) (fun i hi => ?_)
    · exact z.I (by decide) i
    · exact z.I (by decide) i
    · exact z.I (by decide) i
    · rw [gI_nk (by omega), gI_na (by decide), gI_na (by decide)]
    · rw [gI_na (by decide), gI_na (by decide), gI_nk (by simp only [na]; omega)]
theorem n_end {f : Fr} {r : List Fr} {cm : Bool} {g k : mu_T} (hC : CA g (f :: r) cm) (z : sm (xI g 17 1 (nI r.length)) k [18]) (hk : RB k 18 19 16384 ((hl (f :: r)).take (hl r).length) false) : sm g (xI (xI k 17 4 (nI (na r))) 17 2 0) CS ∧ CA (xI (xI k 17 4 (nI (na r))) 17 2 0) r false := by
  obtain ⟨q1, b, c, d, e, n, o1, o2, o3, o4, o5, o6, o7⟩ := hC
  have y : sm g (xI (xI k 17 4 (nI (na r))) 17 2 0) [17, 18] := (((((sm.rf g [17]).xI (by simp)).tr z (U := [17, 18]) (by decide) (by decide))).xI (by decide)).xI (by decide)
  have y2 : sm k (xI (xI k 17 4 (nI (na r))) 17 2 0) [17] := ((sm.rf k [17]).xI (by simp)).xI (by simp)
  have c' : r.length + 1 ≤ 50 := c
  have n' : na r + f.2.1.length ≤ 8192 := n
  refine ⟨y.mono (by decide), ?_, ?_, by omega, gI_eq _ _ _ _, ?_, by omega, o7.sm y (by decide) (by decide) (by decide) (by decide) (by decide)⟩
  · have el : (hl (f :: r)).take (hl r).length = hl r := by
      rw [hl, List.take_append_of_le_length (Nat.le_refl _), List.take_length]
    rw [el] at hk
    exact hk.sm y2 (by decide) (by decide)
  · rw [gI_nk (by decide), gI_nk (by decide), z.I (by decide), gI_eq]
  · rw [gI_nk (by decide), gI_eq]
set_option maxHeartbeats 4000000 in
set_option maxRecDepth 100000 in
theorem k_hold (l : Launch) (q : ev_T) {b r0 n0 : Nat} {ys : List Int32} {ov : Bool} {nm : List Int32} {as : List (List Int32)} {a : List Int32} {m : Nat} {t cm : Bool} {r : List Fr} {g : mu_T} (hS : Shp g) (hC : CA g ((nm, as ++ [a], m, t) :: r) cm) (hY : RB g b r0 n0 ys ov) (hn0 : n0 < 1073741824) (hbS : b ∉ CS) (hrS : r0 ∉ CS) : Ctr l q M_Ca_hold 2 [.ref 17, .ref b] (0, 0, g) (fun v w => v = some (.int (if (hl ((nm, as ++ [a], m, t) :: r)).length + ys.length ≤ 16384 then 1 else 0)) ∧ sm g w.2.2 CS ∧ ((hl ((nm, as ++ [a], m, t) :: r)).length + ys.length ≤ 16384 → CA w.2.2 ((nm, as ++ [a ++ ys], m, t) :: r) cm) ∧ (¬ (hl ((nm, as ++ [a], m, t) :: r)).length + ys.length ≤ 16384 → w.2.2 = g)) := by
  have hyl : ys.length < 1073741824 := Nat.lt_of_le_of_lt hY.2.1 hn0
  refine Ctr.mk (lb := [some (.ref 17), some (.ref b)]) (by decide +kernel) (Nat.le_of_ble_eq_true rfl) rfl rfl ?_
  intro pp ee ss mm aa bb mt cd X hrt hlk hnm
  refine v_aload_n X (dk D_Ca_hold 0 rfl) rfl ?_
  refine v_getF X (dk D_Ca_hold 1 rfl) F_Ca_14 rfl rfl (hS.lt (by decide)) (hS.2 17 0) ?_
  refine v_aload_n X (dk D_Ca_hold 2 rfl) rfl ?_
  refine v_getI X (dk D_Ca_hold 3 rfl) F_Ca_51 rfl hY.1.1 hY.1.2.1 ?_
  rw [hY.2.2.1]
  refine v_invV (As := [.int (nI ys.length)]) (st := []) X (k_hasRoom l q hC.1 hyl (by decide)) (dk D_Ca_hold 4 rfl) G_Ca_54 K_By_hasRoom V_By_hasRoom rfl rfl (hS.lt (by decide)) rfl rfl (Nat.le_of_ble_eq_true rfl) (Nat.le_of_ble_eq_true rfl) (Nat.le_of_ble_eq_true rfl) (Nat.le_of_ble_eq_true rfl) (Nat.le_of_ble_eq_true rfl) ?_
  rintro v w ⟨rfl, hw⟩
  rw [hw]
  show Vv _ _ _ _ _ _ _ _ _ _ _ _ _ _ _ [.int (if (hl ((nm, as ++ [a], m, t) :: r)).length + ys.length ≤ 16384 then 1 else 0)] (0, 0, g)
  refine v_if_ne (tgt := 16) X (dk D_Ca_hold 5 rfl) (by decide) (fun c11 => ?_) (fun c11 => ?_)
  · refine v_aload_n X (dk D_Ca_hold 8 rfl) rfl ?_
    refine v_getF X (dk D_Ca_hold 9 rfl) F_Ca_14 rfl rfl (hS.lt (by decide)) (hS.2 17 0) ?_
    refine v_aload_n X (dk D_Ca_hold 10 rfl) rfl ?_
    refine v_iconst (v := nI 0) X (dk D_Ca_hold 11 rfl) (by decide) ?_
    refine v_aload_n X (dk D_Ca_hold 12 rfl) rfl ?_
    refine v_getI X (dk D_Ca_hold 13 rfl) F_Ca_51 rfl hY.1.1 hY.1.2.1 ?_
    rw [hY.2.2.1]
    refine v_invV (As := [.ref b, .int (nI 0), .int (nI ys.length)]) (st := []) X (k_addPart l q hC.1 hY (f := 0) (by omega) (by decide) hn0) (dk D_Ca_hold 14 rfl) G_Ca_58 K_By_addPart V_By_addPart rfl rfl (hS.lt (by decide)) rfl rfl (Nat.le_of_ble_eq_true rfl) (Nat.le_of_ble_eq_true rfl) (Nat.le_of_ble_eq_true rfl) (Nat.le_of_ble_eq_true rfl) (Nat.le_of_ble_eq_true rfl) ?_
    rintro v w ⟨rfl, hw1, hw2⟩
    show Vv _ _ _ _ _ _ _ _ _ _ _ _ _ _ _ [] (0, 0, w.2.2)
    refine v_iconst (v := 1) X (dk D_Ca_hold 15 rfl) (by decide) ?_
    exact v_zret X hlk hrt rfl (dk D_Ca_hold 16 rfl) (by have hc : (hl ((nm, as ++ [a], m, t) :: r)).length + ys.length ≤ 16384 := Decidable.byContradiction (fun e => c11 (if_neg e)); obtain ⟨e1, e2⟩ := n_room hc; rw [e1, e2] at hw2; rw [if_pos hc]; exact ⟨rfl, hw1.mono (by decide), fun _ => n_hold hC hw1 hw2, fun e => absurd hc e⟩)
  · refine v_iconst (v := 0) X (dk D_Ca_hold 6 rfl) (by decide) ?_
    exact v_zret X hlk hrt rfl (dk D_Ca_hold 7 rfl) (by have hc : ¬ (hl ((nm, as ++ [a], m, t) :: r)).length + ys.length ≤ 16384 := fun e => absurd c11 (by rw [if_pos e]; decide); rw [if_neg hc]; exact ⟨rfl, sm.rf _ _, fun e => absurd e hc, fun _ => rfl⟩)
set_option maxHeartbeats 4000000 in
set_option maxRecDepth 100000 in
theorem k_begin (l : Launch) (q : ev_T) {b r0 n0 : Nat} {ys : List Int32} {ov : Bool} {fs : List Fr} {cm : Bool} {g : mu_T} (hS : Shp g) (hC : CA g fs cm) (hY : RB g b r0 n0 ys ov) (hn0 : n0 < 1073741824) (hbS : b ∉ CS) (hrS : r0 ∉ CS) : Ctr l q M_Ca_begin 2 [.ref 17, .ref b] (0, 0, g) (fun v w => v = some (.int (if (fs.length < 50 ∧ (hl fs).length + ys.length ≤ 16384) then 1 else 0)) ∧ sm g w.2.2 CS ∧ ((fs.length < 50 ∧ (hl fs).length + ys.length ≤ 16384) → CA w.2.2 ((ys, [], 1, false) :: fs) cm) ∧ (¬ (fs.length < 50 ∧ (hl fs).length + ys.length ≤ 16384) → w.2.2 = g)) := by
  have hyl : ys.length < 1073741824 := Nat.lt_of_le_of_lt hY.2.1 hn0
  have hop := hC.2.1
  have h50z := hC.2.2.1
  have hnz := hC.2.2.2.2.2.1
  refine Ctr.mk (lb := [some (.ref 17), some (.ref b)]) (by decide +kernel) (Nat.le_of_ble_eq_true rfl) rfl rfl ?_
  intro pp ee ss mm aa bb mt cd X hrt hlk hnm
  refine v_aload_n X (dk D_Ca_begin 0 rfl) rfl ?_
  refine v_getI X (dk D_Ca_begin 1 rfl) F_Ca_40 rfl rfl (hS.lt (by decide)) ?_
  refine v_if_lt (tgt := 30) X (dk D_Ca_begin 2 rfl) (by decide) (fun c4 => absurd c4 (by rw [hop]; exact nI_pos (by omega))) (fun _ => ?_)
  refine v_aload_n X (dk D_Ca_begin 3 rfl) rfl ?_
  refine v_getI X (dk D_Ca_begin 4 rfl) F_Ca_40 rfl rfl (hS.lt (by decide)) ?_
  refine v_bipush (v := 50) X (dk D_Ca_begin 5 rfl) (by decide) ?_
  refine v_icmp_ge (tgt := 30) X (dk D_Ca_begin 6 rfl) (by decide) (fun c13 => ?_) (fun c13 => ?_)
  · refine v_iconst (v := 0) X (dk D_Ca_begin 13 rfl) (by decide) ?_
    exact v_zret X hlk hrt rfl (dk D_Ca_begin 14 rfl) (by have hc : ¬ (fs.length < 50 ∧ (hl fs).length + ys.length ≤ 16384) := (fun e => absurd c13 (by rw [hop]; exact nI_ge (b := 50) e.1 (by decide))); rw [if_neg hc]; exact ⟨rfl, sm.rf _ _, fun e => absurd e hc, fun _ => rfl⟩)
  · refine v_aload_n X (dk D_Ca_begin 7 rfl) rfl ?_
    refine v_getF X (dk D_Ca_begin 8 rfl) F_Ca_14 rfl rfl (hS.lt (by decide)) (hS.2 17 0) ?_
    refine v_aload_n X (dk D_Ca_begin 9 rfl) rfl ?_
    refine v_getI X (dk D_Ca_begin 10 rfl) F_Ca_51 rfl hY.1.1 hY.1.2.1 ?_
    rw [hY.2.2.1]
    refine v_invV (As := [.int (nI ys.length)]) (st := []) X (k_hasRoom l q hC.1 hyl (by decide)) (dk D_Ca_begin 11 rfl) G_Ca_54 K_By_hasRoom V_By_hasRoom rfl rfl (hS.lt (by decide)) rfl rfl (Nat.le_of_ble_eq_true rfl) (Nat.le_of_ble_eq_true rfl) (Nat.le_of_ble_eq_true rfl) (Nat.le_of_ble_eq_true rfl) (Nat.le_of_ble_eq_true rfl) ?_
    rintro v w ⟨rfl, hw⟩
    rw [hw]
    show Vv _ _ _ _ _ _ _ _ _ _ _ _ _ _ _ [.int (if (hl fs).length + ys.length ≤ 16384 then 1 else 0)] (0, 0, g)
    refine v_if_ne (tgt := 32) X (dk D_Ca_begin 12 rfl) (by decide) (fun c27 => ?_) (fun c27 => ?_)
    · refine v_aload_n X (dk D_Ca_begin 15 rfl) rfl ?_
      refine v_getF X (dk D_Ca_begin 16 rfl) F_Ca_24 rfl rfl (hS.lt (by decide)) (hS.2 17 5) ?_
      refine v_aload_n X (dk D_Ca_begin 17 rfl) rfl ?_
      refine v_getI X (dk D_Ca_begin 18 rfl) F_Ca_40 rfl rfl (hS.lt (by decide)) ?_
      have h50 : fs.length < 50 := by rw [hop] at c13; rcases Nat.lt_or_ge fs.length 50 with e | e; exact e; exact absurd (nI_le (a := 50) e (by omega)) c13
      rw [hop]
      refine v_aload_n X (dk D_Ca_begin 19 rfl) rfl ?_
      refine v_getF X (dk D_Ca_begin 20 rfl) F_Ca_14 rfl rfl (hS.lt (by decide)) (hS.2 17 0) ?_
      refine v_getI X (dk D_Ca_begin 21 rfl) F_Ca_51 rfl rfl (hS.lt (by decide)) ?_
      rw [hC.1.2.2.1]
      refine v_iast X (dk D_Ca_begin 22 rfl) rfl (hS.lt (by decide)) (vp_in_nI (show fs.length < 50 from h50) (by decide)) ?_
      rw [nI_clamp (by omega)]
      refine v_aload_n X (dk D_Ca_begin 23 rfl) rfl ?_
      refine v_getF X (dk D_Ca_begin 24 rfl) F_Ca_27 rfl rfl (hS.lt (by decide)) (hS.2 17 6) ?_
      refine v_aload_n X (dk D_Ca_begin 25 rfl) rfl ?_
      refine v_getI X (dk D_Ca_begin 26 rfl) F_Ca_40 rfl rfl (hS.lt (by decide)) ?_
      rw [gI_na (by decide), hop]
      refine v_aload_n X (dk D_Ca_begin 27 rfl) rfl ?_
      refine v_getI X (dk D_Ca_begin 28 rfl) F_Ca_48 rfl rfl (hS.lt (by decide)) ?_
      rw [gI_na (by decide), hC.2.2.2.2.1]
      refine v_iast X (dk D_Ca_begin 29 rfl) rfl (hS.lt (by decide)) (vp_in_nI (show fs.length < 50 from h50) (by decide)) ?_
      rw [nI_clamp (by omega)]
      refine v_aload_n X (dk D_Ca_begin 30 rfl) rfl ?_
      refine v_getF X (dk D_Ca_begin 31 rfl) F_Ca_30 rfl rfl (hS.lt (by decide)) (hS.2 17 7) ?_
      refine v_aload_n X (dk D_Ca_begin 32 rfl) rfl ?_
      refine v_getI X (dk D_Ca_begin 33 rfl) F_Ca_40 rfl rfl (hS.lt (by decide)) ?_
      rw [gI_na (by decide), gI_na (by decide), hop]
      refine v_iconst (v := 1) X (dk D_Ca_begin 34 rfl) (by decide) ?_
      refine v_iast X (dk D_Ca_begin 35 rfl) rfl (hS.lt (by decide)) (vp_in_nI (show fs.length < 50 from h50) (by decide)) ?_
      rw [nI_clamp (by omega)]
      refine v_aload_n X (dk D_Ca_begin 36 rfl) rfl ?_
      refine v_dup X (dk D_Ca_begin 37 rfl) rfl ?_
      refine v_getI X (dk D_Ca_begin 38 rfl) F_Ca_40 rfl rfl (hS.lt (by decide)) ?_
      refine v_iconst (v := 1) X (dk D_Ca_begin 39 rfl) (by decide) ?_
      refine v_iadd X (dk D_Ca_begin 40 rfl) ?_
      rw [gI_na (by decide), gI_na (by decide), gI_na (by decide), hop, nI_1]
      refine v_putI X (dk D_Ca_begin 41 rfl) F_Ca_40 CK_Ca rfl rfl (hS.lt (by decide)) rfl rfl ?_
      have z1 : sm g (xI (xI (xI (xI g 21 fs.length (nI (hl fs).length)) 22 fs.length (nI (na fs))) 23 fs.length 1) 17 1 (nI (fs.length + 1))) [21, 22, 23, 17] := ((((sm.rf g _).xI (by simp)).xI (by simp)).xI (by simp)).xI (by simp)
      have hbS1 : b ∉ [21, 22, 23, 17] := fun e => hbS ((by decide : ∀ x ∈ [21, 22, 23, 17], x ∈ CS) b e)
      have hrS1 : r0 ∉ [21, 22, 23, 17] := fun e => hrS ((by decide : ∀ x ∈ [21, 22, 23, 17], x ∈ CS) r0 e)
      show Vv _ _ _ _ _ _ _ _ _ _ _ _ _ _ _ _ (0, 0, (xI (xI (xI (xI g 21 fs.length (nI (hl fs).length)) 22 fs.length (nI (na fs))) 23 fs.length 1) 17 1 (nI (fs.length + 1))))
      refine v_aload_n X (dk D_Ca_begin 42 rfl) rfl ?_
      refine v_getF X (dk D_Ca_begin 43 rfl) F_Ca_14 rfl rfl (hS.lt (by decide)) (hS.2 17 0) ?_
      refine v_aload_n X (dk D_Ca_begin 44 rfl) rfl ?_
      refine v_iconst (v := nI 0) X (dk D_Ca_begin 45 rfl) (by decide) ?_
      refine v_aload_n X (dk D_Ca_begin 46 rfl) rfl ?_
      refine v_getI X (dk D_Ca_begin 47 rfl) F_Ca_51 rfl hY.1.1 hY.1.2.1 ?_
      rw [z1.I hbS1, hY.2.2.1]
      refine v_invV (As := [.ref b, .int (nI 0), .int (nI ys.length)]) (st := []) X (k_addPart l q (hC.1.sm z1 (by decide) (by decide)) (hY.sm z1 hbS1 hrS1) (f := 0) (by omega) (by decide) hn0) (dk D_Ca_begin 48 rfl) G_Ca_58 K_By_addPart V_By_addPart rfl rfl ((hS.sm z1).lt (by decide)) rfl rfl (Nat.le_of_ble_eq_true rfl) (Nat.le_of_ble_eq_true rfl) (Nat.le_of_ble_eq_true rfl) (Nat.le_of_ble_eq_true rfl) (Nat.le_of_ble_eq_true rfl) ?_
      rintro v w ⟨rfl, hw1, hw2⟩
      show Vv _ _ _ _ _ _ _ _ _ _ _ _ _ _ _ [] (0, 0, w.2.2)
      refine v_iconst (v := 1) X (dk D_Ca_begin 49 rfl) (by decide) ?_
      exact v_zret X hlk hrt rfl (dk D_Ca_begin 50 rfl) (by have hc : (fs.length < 50 ∧ (hl fs).length + ys.length ≤ 16384) := ⟨h50, Decidable.byContradiction (fun e => c27 (if_neg e))⟩; obtain ⟨e1, e2⟩ := n_room hc.2; rw [e1, e2] at hw2; rw [if_pos hc]; exact ⟨rfl, z1.tr hw1 (by decide) (by decide), fun _ => n_begin hC h50 hw1 hw2, fun e => absurd hc e⟩)
    · refine v_iconst (v := 0) X (dk D_Ca_begin 13 rfl) (by decide) ?_
      exact v_zret X hlk hrt rfl (dk D_Ca_begin 14 rfl) (by have hc : ¬ (fs.length < 50 ∧ (hl fs).length + ys.length ≤ 16384) := (fun e => absurd c27 (by rw [if_pos e.2]; decide)); rw [if_neg hc]; exact ⟨rfl, sm.rf _ _, fun e => absurd e hc, fun _ => rfl⟩)
set_option maxHeartbeats 4000000 in
set_option maxRecDepth 100000 in
theorem k_beginArgument (l : Launch) (q : ev_T) {f : Fr} {r : List Fr} {cm : Bool} {g : mu_T} (hS : Shp g) (hC : CA g (f :: r) cm) : Ctr l q M_Ca_beginArgument 1 [.ref 17] (0, 0, g) (fun v w => v = some (.int (if na (f :: r) < 8192 then 1 else 0)) ∧ sm g w.2.2 CS ∧ (na (f :: r) < 8192 → CA w.2.2 ((f.1, f.2.1 ++ [[]], f.2.2.1, false) :: r) cm) ∧ (¬ na (f :: r) < 8192 → w.2.2 = g)) := by
  have hop : gI g 17 1 = nI (r.length + 1) := hC.2.1
  have h50 : r.length + 1 ≤ 50 := hC.2.2.1
  have har : gI g 17 4 = nI (na (f :: r)) := hC.2.2.2.2.1
  have hna : na (f :: r) ≤ 8192 := hC.2.2.2.2.2.1
  refine Ctr.mk (lb := [some (.ref 17)]) (by decide +kernel) (Nat.le_of_ble_eq_true rfl) rfl rfl ?_
  intro pp ee ss mm aa bb mt cd X hrt hlk hnm
  refine v_aload_n X (dk D_Ca_beginArgument 0 rfl) rfl ?_
  refine v_invV (As := []) (st := []) X (k_hasTop l q hS hC) (dk D_Ca_beginArgument 1 rfl) G_Ca_62 K_Ca_hasTop V_Ca_hasTop rfl rfl (hS.lt (by decide)) rfl rfl (Nat.le_of_ble_eq_true rfl) (Nat.le_of_ble_eq_true rfl) (Nat.le_of_ble_eq_true rfl) (Nat.le_of_ble_eq_true rfl) (Nat.le_of_ble_eq_true rfl) ?_
  rintro v w ⟨rfl, hw⟩
  rw [hw, if_neg (List.cons_ne_nil _ _)]
  show Vv _ _ _ _ _ _ _ _ _ _ _ _ _ _ _ (.int 1 :: []) (0, 0, g)
  refine v_if_eq (tgt := 26) X (dk D_Ca_beginArgument 2 rfl) (by decide) (fun c4 => absurd c4 (by decide)) (fun _ => ?_)
  refine v_aload_n X (dk D_Ca_beginArgument 3 rfl) rfl ?_
  refine v_getI X (dk D_Ca_beginArgument 4 rfl) F_Ca_48 rfl rfl (hS.lt (by decide)) ?_
  refine v_if_lt (tgt := 26) X (dk D_Ca_beginArgument 5 rfl) (by decide) (fun c11 => absurd c11 (by rw [har]; exact nI_pos (by omega))) (fun _ => ?_)
  refine v_aload_n X (dk D_Ca_beginArgument 6 rfl) rfl ?_
  refine v_getI X (dk D_Ca_beginArgument 7 rfl) F_Ca_48 rfl rfl (hS.lt (by decide)) ?_
  refine v_aload_n X (dk D_Ca_beginArgument 8 rfl) rfl ?_
  refine v_getF X (dk D_Ca_beginArgument 9 rfl) F_Ca_20 rfl rfl (hS.lt (by decide)) (hS.2 17 3) ?_
  refine v_alen (v := nI _) X (dk D_Ca_beginArgument 10 rfl) rfl rfl (hS.lt (by decide)) rfl ?_
  refine v_icmp_lt (tgt := 28) X (dk D_Ca_beginArgument 11 rfl) (by decide) (fun c23 => ?_) (fun c23 => ?_)
  · refine v_aload_n X (dk D_Ca_beginArgument 14 rfl) rfl ?_
    refine v_getF X (dk D_Ca_beginArgument 15 rfl) F_Ca_20 rfl rfl (hS.lt (by decide)) (hS.2 17 3) ?_
    refine v_aload_n X (dk D_Ca_beginArgument 16 rfl) rfl ?_
    refine v_getI X (dk D_Ca_beginArgument 17 rfl) F_Ca_48 rfl rfl (hS.lt (by decide)) ?_
    have hc : na (f :: r) < 8192 := by rw [har] at c23; rcases Nat.lt_or_ge (na (f :: r)) 8192 with e | e; exact e; exact absurd c23 (nI_nlt (b := 8192) e (by omega))
    rw [har]
    refine v_aload_n X (dk D_Ca_beginArgument 18 rfl) rfl ?_
    refine v_getF X (dk D_Ca_beginArgument 19 rfl) F_Ca_14 rfl rfl (hS.lt (by decide)) (hS.2 17 0) ?_
    refine v_getI X (dk D_Ca_beginArgument 20 rfl) F_Ca_51 rfl rfl (hS.lt (by decide)) ?_
    rw [hC.1.2.2.1]
    refine v_iast X (dk D_Ca_beginArgument 21 rfl) rfl (hS.lt (by decide)) (vp_in_nI (show na (f :: r) < 8192 from hc) (by decide)) ?_
    rw [nI_clamp (by omega)]
    refine v_aload_n X (dk D_Ca_beginArgument 22 rfl) rfl ?_
    refine v_dup X (dk D_Ca_beginArgument 23 rfl) rfl ?_
    refine v_getI X (dk D_Ca_beginArgument 24 rfl) F_Ca_48 rfl rfl (hS.lt (by decide)) ?_
    refine v_iconst (v := 1) X (dk D_Ca_beginArgument 25 rfl) (by decide) ?_
    refine v_iadd X (dk D_Ca_beginArgument 26 rfl) ?_
    rw [gI_na (by decide), har, nI_1]
    refine v_putI X (dk D_Ca_beginArgument 27 rfl) F_Ca_48 CK_Ca rfl rfl (hS.lt (by decide)) rfl rfl ?_
    refine v_aload_n X (dk D_Ca_beginArgument 28 rfl) rfl ?_
    refine v_getF X (dk D_Ca_beginArgument 29 rfl) F_Ca_33 rfl rfl (hS.lt (by decide)) (hS.2 17 8) ?_
    refine v_aload_n X (dk D_Ca_beginArgument 30 rfl) rfl ?_
    refine v_getI X (dk D_Ca_beginArgument 31 rfl) F_Ca_40 rfl rfl (hS.lt (by decide)) ?_
    refine v_iconst (v := 1) X (dk D_Ca_beginArgument 32 rfl) (by decide) ?_
    refine v_isub X (dk D_Ca_beginArgument 33 rfl) ?_
    rw [gI_nk (by decide), gI_na (by decide), hop, show nI (r.length + 1) - 1 = nI r.length from pk_sub (b := 1) (by omega)]
    refine v_iconst (v := 0) X (dk D_Ca_beginArgument 34 rfl) (by decide) ?_
    refine v_zast X (dk D_Ca_beginArgument 35 rfl) rfl (hS.lt (by decide)) (vp_in_nI (show r.length < 50 by omega) (by decide)) rfl ?_
    rw [nI_clamp (by omega)]
    refine v_iconst (v := 1) X (dk D_Ca_beginArgument 36 rfl) (by decide) ?_
    exact v_zret X hlk hrt rfl (dk D_Ca_beginArgument 37 rfl) (by rw [if_pos hc]; exact ⟨rfl, (n_barg hC hc).1, fun _ => (n_barg hC hc).2, fun e => absurd hc e⟩)
  · refine v_iconst (v := 0) X (dk D_Ca_beginArgument 12 rfl) (by decide) ?_
    exact v_zret X hlk hrt rfl (dk D_Ca_beginArgument 13 rfl) (by have hc : ¬ na (f :: r) < 8192 := fun e => c23 (by rw [har]; exact nI_lt (b := 8192) e (by decide)); rw [if_neg hc]; exact ⟨rfl, sm.rf _ _, fun e => absurd e hc, fun _ => rfl⟩)
set_option maxHeartbeats 4000000 in
set_option maxRecDepth 100000 in
theorem k_Ca_end (l : Launch) (q : ev_T) {f : Fr} {r : List Fr} {cm : Bool} {g : mu_T} (hS : Shp g) (hC : CA g (f :: r) cm) : Ctr l q M_Ca_end 1 [.ref 17] (0, 0, g) (fun v w => v = none ∧ sm g w.2.2 CS ∧ CA w.2.2 r false) := by
  have hop : gI g 17 1 = nI (r.length + 1) := hC.2.1
  have h50 : r.length + 1 ≤ 50 := hC.2.2.1
  have har : gI g 17 4 = nI (na (f :: r)) := hC.2.2.2.2.1
  have hna : na (f :: r) ≤ 8192 := hC.2.2.2.2.2.1
  obtain ⟨o1, o2, o3, o4, o5, o6, o7⟩ := hC.2.2.2.2.2.2
  have hnaR : na r + f.2.1.length ≤ 8192 := hna
  refine Ctr.mk (lb := [some (.ref 17)]) (by decide +kernel) (Nat.le_of_ble_eq_true rfl) rfl rfl ?_
  intro pp ee ss mm aa bb mt cd X hrt hlk hnm
  refine v_aload_n X (dk D_Ca_end 0 rfl) rfl ?_
  refine v_invV (As := []) (st := []) X (k_hasTop l q hS hC) (dk D_Ca_end 1 rfl) G_Ca_62 K_Ca_hasTop V_Ca_hasTop rfl rfl (hS.lt (by decide)) rfl rfl (Nat.le_of_ble_eq_true rfl) (Nat.le_of_ble_eq_true rfl) (Nat.le_of_ble_eq_true rfl) (Nat.le_of_ble_eq_true rfl) (Nat.le_of_ble_eq_true rfl) ?_
  rintro v w ⟨rfl, hw⟩
  rw [hw, if_neg (List.cons_ne_nil _ _)]
  show Vv _ _ _ _ _ _ _ _ _ _ _ _ _ _ _ (.int 1 :: []) (0, 0, g)
  refine v_if_eq (tgt := 46) X (dk D_Ca_end 2 rfl) (by decide) (fun c4 => absurd c4 (by decide)) (fun _ => ?_)
  refine v_aload_n X (dk D_Ca_end 3 rfl) rfl ?_
  refine v_dup X (dk D_Ca_end 4 rfl) rfl ?_
  refine v_getI X (dk D_Ca_end 5 rfl) F_Ca_40 rfl rfl (hS.lt (by decide)) ?_
  refine v_iconst (v := 1) X (dk D_Ca_end 6 rfl) (by decide) ?_
  refine v_isub X (dk D_Ca_end 7 rfl) ?_
  rw [hop, show nI (r.length + 1) - 1 = nI r.length from pk_sub (b := 1) (by omega)]
  refine v_putI X (dk D_Ca_end 8 rfl) F_Ca_40 CK_Ca rfl rfl (hS.lt (by decide)) rfl rfl ?_
  have z1 : sm g (xI g 17 1 (nI r.length)) [17] := (sm.rf g _).xI (by simp)
  refine v_aload_n X (dk D_Ca_end 9 rfl) rfl ?_
  refine v_getF X (dk D_Ca_end 10 rfl) F_Ca_14 rfl rfl (hS.lt (by decide)) (hS.2 17 0) ?_
  refine v_aload_n X (dk D_Ca_end 11 rfl) rfl ?_
  refine v_getF X (dk D_Ca_end 12 rfl) F_Ca_24 rfl rfl (hS.lt (by decide)) (hS.2 17 5) ?_
  refine v_aload_n X (dk D_Ca_end 13 rfl) rfl ?_
  refine v_getI X (dk D_Ca_end 14 rfl) F_Ca_40 rfl rfl (hS.lt (by decide)) ?_
  rw [gI_eq]
  refine v_iald X (dk D_Ca_end 15 rfl) rfl (hS.lt (by decide)) (vp_in_nI (show r.length < 50 by omega) (by decide)) ?_
  rw [nI_clamp (by omega), gI_na (by decide), o1]
  refine v_invV (As := [.int (nI (hl r).length)]) (st := []) X (k_cutN l q (hC.1.sm z1 (by decide) (by decide)) (show (hl r).length ≤ (hl (f :: r)).length by simp [hl])) (dk D_Ca_end 16 rfl) G_Ca_37 K_By_cut V_By_cut rfl rfl ((hS.sm z1).lt (by decide)) rfl rfl (Nat.le_of_ble_eq_true rfl) (Nat.le_of_ble_eq_true rfl) (Nat.le_of_ble_eq_true rfl) (Nat.le_of_ble_eq_true rfl) (Nat.le_of_ble_eq_true rfl) ?_
  rintro v w ⟨rfl, hw1, hw2⟩
  have hS1 := (hS.sm z1).sm hw1
  show Vv _ _ _ _ _ _ _ _ _ _ _ _ _ _ _ [] (0, 0, w.2.2)
  refine v_aload_n X (dk D_Ca_end 17 rfl) rfl ?_
  refine v_aload_n X (dk D_Ca_end 18 rfl) rfl ?_
  refine v_getF X (dk D_Ca_end 19 rfl) F_Ca_27 rfl rfl (hS1.lt (by decide)) (hS1.2 17 6) ?_
  refine v_aload_n X (dk D_Ca_end 20 rfl) rfl ?_
  refine v_getI X (dk D_Ca_end 21 rfl) F_Ca_40 rfl rfl (hS1.lt (by decide)) ?_
  rw [hw1.I (by decide), gI_eq]
  refine v_iald X (dk D_Ca_end 22 rfl) rfl (hS1.lt (by decide)) (vp_in_nI (show r.length < 50 by omega) (by decide)) ?_
  rw [nI_clamp (by omega), hw1.I (by decide), gI_na (by decide), o2]
  refine v_putI X (dk D_Ca_end 23 rfl) F_Ca_48 CK_Ca rfl rfl (hS1.lt (by decide)) rfl rfl ?_
  refine v_aload_n X (dk D_Ca_end 24 rfl) rfl ?_
  refine v_iconst (v := 0) X (dk D_Ca_end 25 rfl) (by decide) ?_
  refine v_putI X (dk D_Ca_end 26 rfl) F_Ca_44 CK_Ca rfl rfl (hS1.lt (by decide)) rfl rfl ?_
  exact v_vret X hlk hrt (dk D_Ca_end 27 rfl) ⟨rfl, n_end hC hw1 hw2⟩
