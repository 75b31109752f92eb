/-! the reference: the arguments of a call -/
theorem e40 : ¬ (40 : Int32) = 0 := by decide
theorem e40b : ¬ (40 : Int32) = 32 := by decide
theorem e31 : ¬ (31 : Int32) = 0 := by decide
theorem e31b : ¬ (31 : Int32) = 32 := by decide
theorem e34 : ¬ (34 : Int32) = 0 := by decide
theorem e34b : ¬ (34 : Int32) = 32 := by decide
theorem AR_beg {g : mu_T} {f : Fr} {r : List Fr} (a : Nat) (b : Bool) (h : AR g (f :: r)) (hn : na (f :: r) < 8192) : AR (xI (xI g 1019 (na (f :: r)) (nI (hl (f :: r)).length)) 1003 37 (nI (na (f :: r) + 1))) ((f.1, f.2.1 ++ [[]], a, b) :: r) := by
  obtain ⟨h1, h2, h3, h4, h5, h6⟩ := h
  have z : rs g (xI (xI g 1019 (na (f :: r)) (nI (hl (f :: r)).length)) 1003 37 (nI (na (f :: r) + 1))) [37] [1019] := ((rs.rf g _ _).rI (by decide) (by decide)).fI (by decide)
  have e1 : hl ((f.1, f.2.1 ++ [[]], a, b) :: r) = hl (f :: r) := by
    show hl r ++ (f.1 ++ (f.2.1 ++ [[]]).flatten) = hl r ++ (f.1 ++ f.2.1.flatten)
    rw [List.flatten_append]; simp
  have e2 : na ((f.1, f.2.1 ++ [[]], a, b) :: r) = na (f :: r) + 1 := by
    show na r + (f.2.1 ++ [[]]).length = na r + f.2.1.length + 1
    rw [List.length_append]; rfl
  refine ⟨by rw [e1]; exact h1.rs z (by decide) (by decide), by rw [e2]; exact gI_eq _ _ _ _, by rw [e2]; omega, (z.2 34 (by decide)).trans h4, h5, fun j hj => ?_, ?_⟩
  · rw [gI_na (by decide)]
    have hj2 : j < f.2.1.length + 1 := by
      have : j < (f.2.1 ++ [[]]).length := hj
      rw [List.length_append] at this; exact this
    by_cases c : j < f.2.1.length
    · rw [gI_nk (by show na r + j ≠ na r + f.2.1.length; omega), h6.1 j c]
      show nI ((hl r).length + f.1.length + (f.2.1.take j).flatten.length) = nI ((hl r).length + f.1.length + ((f.2.1 ++ [[]]).take j).flatten.length)
      rw [List.take_append_of_le_length (by omega)]
    · have ej : j = f.2.1.length := by omega
      rw [ej, show na r + f.2.1.length = na (f :: r) from rfl, gI_eq, ← stA_end (f := f) (r := r) (i := f.2.1.length) (Nat.le_refl _)]
      show nI ((hl r).length + f.1.length + (f.2.1.take f.2.1.length).flatten.length) = nI ((hl r).length + f.1.length + ((f.2.1 ++ [[]]).take f.2.1.length).flatten.length)
      rw [List.take_append_of_le_length (Nat.le_refl _)]
  · refine stS_of h6.2 (fun j hj => ?_)
    rw [gI_na (by decide), gI_nk (by show j ≠ na r + f.2.1.length; omega)]
theorem apL_all {as : List (List Int32)} {t : List Int32} (h : as ≠ []) : (apL as t).length = as.length ∧ (apL as t).flatten = as.flatten ++ t ∧ ∀ j, j < as.length → (apL as t).take j = as.take j := by
  obtain ⟨bs, a, rfl⟩ : ∃ bs a, as = bs ++ [a] := ⟨as.dropLast, as.getLast h, (List.dropLast_concat_getLast h).symm⟩
  rw [apL_snoc]
  refine ⟨by rw [List.length_append, List.length_append]; rfl, by simp, fun j hj => ?_⟩
  rw [List.length_append] at hj
  have : j ≤ bs.length := by have : ([a] : List (List Int32)).length = 1 := rfl; omega
  rw [List.take_append_of_le_length this, List.take_append_of_le_length this]
theorem AR_put {g w : mu_T} {f : Fr} {r : List Fr} {tk : List Int32} (a : Nat) (b : Bool) (h : AR g (f :: r)) (hf : f.2.1 ≠ []) (z : rs g w [2, 3, 36] [1018]) (hA : AG w (hl (f :: r) ++ tk)) : AR w ((f.1, apL f.2.1 tk, a, b) :: r) := by
  obtain ⟨h1, h2, h3, h4, h5, h6⟩ := h
  obtain ⟨p1, p2, p3⟩ := apL_all (t := tk) hf
  have e1 : hl ((f.1, apL f.2.1 tk, a, b) :: r) = hl (f :: r) ++ tk := by
    show hl r ++ (f.1 ++ (apL f.2.1 tk).flatten) = hl r ++ (f.1 ++ f.2.1.flatten) ++ tk
    rw [p2]; simp only [List.append_assoc]
  have e2 : na ((f.1, apL f.2.1 tk, a, b) :: r) = na (f :: r) := by
    show na r + (apL f.2.1 tk).length = na r + f.2.1.length
    rw [p1]
  refine ⟨by rw [e1]; exact hA, by rw [e2]; exact (z.2 37 (by decide)).trans h2, by rw [e2]; exact h3, (z.2 34 (by decide)).trans h4, h5, fun j hj => ?_, stS_of h6.2 (fun j _ => z.row (by decide) (by decide) j)⟩
  have hj2 : j < f.2.1.length := by
    have : j < (apL f.2.1 tk).length := hj
    rw [p1] at this; exact this
  rw [z.row (by decide) (by decide), h6.1 j hj2]
  show nI ((hl r).length + f.1.length + (f.2.1.take j).flatten.length) = nI ((hl r).length + f.1.length + ((apL f.2.1 tk).take j).flatten.length)
  rw [p3 j hj2]
theorem AR_nm {g w : mu_T} {r : List Fr} {tk : List Int32} {K U : List Nat} (a : Nat) (b : Bool) (h : AR g r) (z : rs g w K U) (h37 : 37 ∉ K) (hU : 1019 ∉ U) (hA : AG w (hl r ++ tk)) (e34 : gI w 1003 34 = nI (r.length + 1)) (hl5 : r.length < 50) : AR w ((tk, [], a, b) :: r) := by
  obtain ⟨h1, h2, h3, h4, h5, h6⟩ := h
  have e1 : hl ((tk, [], a, b) :: r) = hl r ++ tk := by
    show hl r ++ (tk ++ ([] : List (List Int32)).flatten) = hl r ++ tk
    rw [List.flatten_nil, List.append_nil]
  exact ⟨by rw [e1]; exact hA, (z.2 37 h37).trans h2, h3, e34, hl5, fun j hj => absurd hj (Nat.not_lt_zero _), stS_of h6 (fun j _ => z.row hU (by decide) j)⟩
/-- the whole state of the reference between two tokens -/
def RF (g : mu_T) (fu : Nat) (S : Mst) : Prop := RZ g fu S ∧ AR g S.2.2.1.1 ∧ S.2.2.1.2 = false ∧ OKP S.2.2.2.1.1 ∧ QN S ∧ GV g [] ∧ gI g 1003 2 = 0
def icN : List Fr → Int32
  | [] => 0
  | _ :: _ => 1
def cL (fs fs2 : List Fr) (kd : Int32) (tk : List Int32) : Prop := match fs with
  | [] => fs2 = []
  | f :: r => ∃ as, fs2 = (f.1, as, f.2.2.1, true) :: r ∧ as.length = f.2.1.length ∧ f.2.1.flatten.length ≤ as.flatten.length ∧ (kd = 4 → as.flatten.length = f.2.1.flatten.length + tk.length)
def HP (w : mu_T) (fu : Nat) (S : Mst) (kd : Int32) (tk : List Int32) : Prop := (gI w 1003 2 = 0 → ∃ S2, RF w fu S2 ∧ cL S.2.2.1.1 S2.2.2.1.1 kd tk ∧ S2.1.2.2.1 ≤ S.1.2.2.1 ∧ ∀ tl, hR kd tk S tl = rnD S2) ∧ (¬ gI w 1003 2 = 0 → ∀ tl, XE w fu (hR kd tk S tl))
def HC (l : Launch) (q : ev_T) (c D : Nat) : Prop := ∀ (g : mu_T) (fu : Nat) (S : Mst) (kd : Int32) (tk : List Int32), RF g fu S → S.2.2.1.1.length = c → (∀ f ∈ S.2.2.1.1, f.2.1 ≠ []) → TK g tk → gI g 1003 16 = kd → (kd = 3 → FO S.2.2.1.1) → Ctr l q M_Rf_handle D [.ref 1003, .int (icN S.2.2.1.1)] (0, 0, g) (fun v w => v = none ∧ rs g w.2.2 [2, 3, 4, 8, 9, 10, 11, 13, 15, 16, 18, 20, 21, 27, 28, 29, 32, 33, 34, 36, 37, 39, 40, 41, 42, 43, 44] [1006, 1007, 1008, 1009, 1010, 1011, 1012, 1013, 1014, 1015, 1016, 1017, 1018, 1019, 1020, 1021] ∧ HP w.2.2 fu S kd tk)
/-- the bracket is taken, the first argument begins -/
def oV (tk : List Int32) (r : List Fr) (S : Mst) : Int32 × Mst := if tkV S.1 < 0 then (31, sI (sF S ((tk, [], 1, false) :: r) false) (tkI S.1)) else if na r < 8192 then (0, sI (sF S ((tk, [[]], 1, false) :: r) false) (tkI S.1)) else (40, sI (sF S ((tk, [], 1, false) :: r) false) (tkI S.1))
def oRr (tk : List Int32) (r : List Fr) (S : Mst) (tl : Int32) : Int32 × Mst × Int32 := if ¬ (oV tk r S).1 = 0 then ((oV tk r S).1, (oV tk r S).2, tl) else rnF (oV tk r S).2 tl
def AQ (w : mu_T) (fu : Nat) (tk : List Int32) (r : List Fr) (S : Mst) : Prop := (gI w 1003 2 = 0 → ∃ S3 f3 tl3, S3.2.2.1 = (f3 :: r, true) ∧ f3.1 = tk ∧ RZ w fu S3 ∧ AR w (f3 :: r) ∧ OKP S3.2.2.2.1.1 ∧ QN S3 ∧ GV w [] ∧ S3.1.2.2.1 ≤ S.1.2.2.1 ∧ ∀ tl, oRr tk r S tl = rnF S3 tl3) ∧ (¬ gI w 1003 2 = 0 → ∀ tl, XE w fu (oRr tk r S tl))
def RAC (l : Launch) (q : ev_T) (c D : Nat) : Prop := ∀ (g : mu_T) (fu : Nat) (S : Mst) (tk : List Int32) (r : List Fr), RZ g fu S → AR g ((tk, [], 1, false) :: r) → r.length + 1 = c → OKP S.2.2.2.1.1 → QN S → GV g [] → gI g 1003 2 = 0 → FO r → atL S.1.1 (nI 0) = 40 → Ctr l q M_Rf_readArguments D [.ref 1003] (0, 0, g) (fun v w => v = none ∧ rs g w.2.2 [2, 3, 4, 8, 9, 10, 11, 13, 15, 16, 18, 20, 21, 27, 28, 29, 32, 33, 34, 36, 37, 39, 40, 41, 42, 43, 44] [1006, 1007, 1008, 1009, 1010, 1011, 1012, 1013, 1014, 1015, 1016, 1017, 1018, 1019, 1020, 1021] ∧ AQ w.2.2 fu tk r S)
/-- a token in a call -/
theorem usT_f {kd : Int32} {tk : List Int32} {S : Mst} {f : Fr} {r : List Fr} (hc : S.2.2.1.1 = f :: r) : usT kd tk S = if kd = 3 ∧ isCl S tk = true then opC tk S else uiA kd tk f r S := by
  rw [usT, hc]
theorem sF_id {S : Mst} {fs : List Fr} (hc : S.2.2.1 = (fs, false)) : sF S fs false = S := by
  rw [sF, ← hc]
def lvN (kd : Int32) (tk : List Int32) (n : Nat) : Nat := if kd = 4 ∧ atL tk (nI 0) = 40 then n + 1 else if kd = 4 ∧ atL tk (nI 0) = 41 then n - 1 else n
theorem usT_D {kd : Int32} {tk : List Int32} {S : Mst} {f : Fr} {r : List Fr} (hc : S.2.2.1 = (f :: r, false)) (h1 : ¬ (kd = 4 ∧ isSpc (atL tk (nI 0)) = true ∧ ¬ f.2.2.2 = true)) (h2 : ¬ (kd = 4 ∧ atL tk (nI 0) = 44 ∧ f.2.2.1 = 1)) (h3 : ¬ (kd = 4 ∧ atL tk (nI 0) = 41 ∧ f.2.2.1 = 1)) : usT kd tk S = hU kd tk (sF S ((f.1, f.2.1, lvN kd tk f.2.2.1, f.2.2.2) :: r) false) := by
  rw [usT_f (by rw [hc])]
  by_cases c4 : kd = 4
  · have eH : hU kd tk (sF S ((f.1, f.2.1, lvN kd tk f.2.2.1, f.2.2.2) :: r) false) = hld tk (f.1, f.2.1, lvN kd tk f.2.2.1, f.2.2.2) r (sF S ((f.1, f.2.1, lvN kd tk f.2.2.1, f.2.2.2) :: r) false) := by
      rw [hU, if_neg (fun z => by rw [c4] at z; exact absurd z.1 (by decide))]
      rfl
    rw [if_neg (fun z => by rw [c4] at z; exact absurd z.1 (by decide)), uiA, if_pos c4, if_neg (fun z => h1 ⟨c4, z⟩), if_neg (fun z => h2 ⟨c4, z⟩), eH]
    by_cases c40 : atL tk (nI 0) = 40
    · rw [if_pos c40, show lvN kd tk f.2.2.1 = f.2.2.1 + 1 from by rw [lvN, if_pos ⟨c4, c40⟩]]; rfl
    · by_cases c41 : atL tk (nI 0) = 41
      · rw [if_neg c40, if_pos c41, if_neg (fun z => h3 ⟨c4, c41, z⟩), show lvN kd tk f.2.2.1 = f.2.2.1 - 1 from by rw [lvN, if_neg (fun z => c40 z.2), if_pos ⟨c4, c41⟩]]; rfl
      · rw [if_neg c40, if_neg c41, show lvN kd tk f.2.2.1 = f.2.2.1 from by rw [lvN, if_neg (fun z => c40 z.2), if_neg (fun z => c41 z.2)]]; rfl
  · have el : lvN kd tk f.2.2.1 = f.2.2.1 := by rw [lvN, if_neg (fun z => c4 z.1), if_neg (fun z => c4 z.1)]
    rw [el, show sF S ((f.1, f.2.1, f.2.2.1, f.2.2.2) :: r) false = S from sF_id hc, hU, uiA, if_neg c4, hc]
set_option maxHeartbeats 4000000 in
set_option maxRecDepth 100000 in
theorem r_beginArgumentE (l : Launch) (q : ev_T) {g : mu_T} (hS : Shp g) (he : ¬ gI g 1003 2 = 0) : Ctr l q M_Rf_beginArgument 2 [.ref 1003] (0, 0, g) (fun v w => v = none ∧ w.2.2 = g) := by

  refine Ctr.mk (lb := [some (.ref 1003)]) (by decide +kernel) (Nat.le_of_ble_eq_true rfl) rfl rfl ?_
  intro pp ee ss mm aa bb mt cd X hrt hlk hnm
  refine v_aload_n X (dk D_Rf_beginArgument 0 rfl) rfl ?_
  refine v_getI X (dk D_Rf_beginArgument 1 rfl) F_Rf_72 rfl rfl (hS.lt (by decide)) ?_
  refine v_if_ne (tgt := 23) X (dk D_Rf_beginArgument 2 rfl) (by decide) (fun _ => ?_) (fun c4 => absurd c4 he)
  refine v_aload_n X (dk D_Rf_beginArgument 10 rfl) rfl ?_
  refine v_getI X (dk D_Rf_beginArgument 11 rfl) F_Rf_72 rfl rfl (hS.lt (by decide)) ?_
  refine v_if_ne (tgt := 53) X (dk D_Rf_beginArgument 12 rfl) (by decide) (fun _ => ?_) (fun c27 => absurd c27 he)
  exact v_vret X hlk hrt (dk D_Rf_beginArgument 26 rfl) ⟨rfl, rfl⟩
set_option maxHeartbeats 4000000 in
set_option maxRecDepth 100000 in
theorem r_beginArgument (l : Launch) (q : ev_T) {f : Fr} {r : List Fr} {g : mu_T} (hS : Shp g) (hA : AR g (f :: r)) (he : gI g 1003 2 = 0) : Ctr l q M_Rf_beginArgument 2 [.ref 1003] (0, 0, g) (fun v w => v = none ∧ rs g w.2.2 [2, 3, 37] [1019] ∧ (na (f :: r) < 8192 → gI w.2.2 1003 2 = 0 ∧ ∀ a b, AR w.2.2 ((f.1, f.2.1 ++ [[]], a, b) :: r)) ∧ (¬ na (f :: r) < 8192 → gI w.2.2 1003 2 = 40 ∧ gI w.2.2 1003 3 = gI g 1003 10 ∧ gI w.2.2 1003 37 = gI g 1003 37)) := by
  have hn := hA.2.2.1
  refine Ctr.mk (lb := [some (.ref 1003)]) (by decide +kernel) (Nat.le_of_ble_eq_true rfl) rfl rfl ?_
  intro pp ee ss mm aa bb mt cd X hrt hlk hnm
  by_cases c : na (f :: r) < 8192
  · skip
    refine v_aload_n X (dk D_Rf_beginArgument 0 rfl) rfl ?_
    refine v_getI X (dk D_Rf_beginArgument 1 rfl) F_Rf_72 rfl rfl (hS.lt (by decide)) ?_
    refine v_if_ne (tgt := 23) X (dk D_Rf_beginArgument 2 rfl) (by decide) (fun c4 => absurd he c4) (fun _ => ?_)
    refine v_aload_n X (dk D_Rf_beginArgument 3 rfl) rfl ?_
    refine v_getI X (dk D_Rf_beginArgument 4 rfl) F_Rf_243 rfl rfl (hS.lt (by decide)) ?_
    refine v_sipush (v := 8192) X (dk D_Rf_beginArgument 5 rfl) (by decide) ?_
    refine v_icmp_ne (tgt := 23) X (dk D_Rf_beginArgument 6 rfl) (by decide) (fun _ => ?_) (fun c14 => absurd c14 (by rw [hA.2.1, show (8192 : Int32) = nI 8192 from rfl, nI_eq (by omega) (by decide)]; omega))
    refine v_aload_n X (dk D_Rf_beginArgument 10 rfl) rfl ?_
    refine v_getI X (dk D_Rf_beginArgument 11 rfl) F_Rf_72 rfl rfl (hS.lt (by decide)) ?_
    refine v_if_ne (tgt := 53) X (dk D_Rf_beginArgument 12 rfl) (by decide) (fun c27 => absurd he c27) (fun _ => ?_)
    refine v_aload_n X (dk D_Rf_beginArgument 13 rfl) rfl ?_
    refine v_getF X (dk D_Rf_beginArgument 14 rfl) F_Rf_59 rfl rfl (hS.lt (by decide)) (hS.2 1003 38) ?_
    refine v_aload_n X (dk D_Rf_beginArgument 15 rfl) rfl ?_
    refine v_getI X (dk D_Rf_beginArgument 16 rfl) F_Rf_243 rfl rfl (hS.lt (by decide)) ?_
    rw [hA.2.1]
    refine v_aload_n X (dk D_Rf_beginArgument 17 rfl) rfl ?_
    refine v_getI X (dk D_Rf_beginArgument 18 rfl) F_Rf_226 rfl rfl (hS.lt (by decide)) ?_
    rw [hA.1.1]
    refine v_iast X (dk D_Rf_beginArgument 19 rfl) rfl (hS.lt (by decide)) (vp_in_nI (show na (f :: r) < 8300 by omega) (by decide)) ?_
    rw [nI_clamp (by omega)]
    refine v_aload_n X (dk D_Rf_beginArgument 20 rfl) rfl ?_
    refine v_dup X (dk D_Rf_beginArgument 21 rfl) rfl ?_
    refine v_getI X (dk D_Rf_beginArgument 22 rfl) F_Rf_243 rfl rfl (hS.lt (by decide)) ?_
    rw [gI_na (by decide), hA.2.1]
    refine v_iconst (v := 1) X (dk D_Rf_beginArgument 23 rfl) (by decide) ?_
    refine v_iadd X (dk D_Rf_beginArgument 24 rfl) ?_
    rw [nI_1]
    refine v_putI X (dk D_Rf_beginArgument 25 rfl) F_Rf_243 CK_Rf rfl rfl (hS.lt (by decide)) rfl rfl ?_
    exact v_vret X hlk hrt (dk D_Rf_beginArgument 26 rfl) ⟨rfl, ((rs.rf g _ _).rI (by decide) (by decide)).fI (by decide), fun _ => ⟨(gI_nk (by decide)).trans ((gI_na (by decide)).trans he), fun a b => AR_beg a b hA c⟩, fun z => absurd c z⟩
  · skip
    refine v_aload_n X (dk D_Rf_beginArgument 0 rfl) rfl ?_
    refine v_getI X (dk D_Rf_beginArgument 1 rfl) F_Rf_72 rfl rfl (hS.lt (by decide)) ?_
    refine v_if_ne (tgt := 23) X (dk D_Rf_beginArgument 2 rfl) (by decide) (fun c4 => absurd he c4) (fun _ => ?_)
    refine v_aload_n X (dk D_Rf_beginArgument 3 rfl) rfl ?_
    refine v_getI X (dk D_Rf_beginArgument 4 rfl) F_Rf_243 rfl rfl (hS.lt (by decide)) ?_
    refine v_sipush (v := 8192) X (dk D_Rf_beginArgument 5 rfl) (by decide) ?_
    refine v_icmp_ne (tgt := 23) X (dk D_Rf_beginArgument 6 rfl) (by decide) (fun c14 => absurd (by rw [hA.2.1, show na (f :: r) = 8192 by omega]; rfl) c14) (fun _ => ?_)
    refine v_aload_n X (dk D_Rf_beginArgument 7 rfl) rfl ?_
    refine v_bipush (v := 40) X (dk D_Rf_beginArgument 8 rfl) (by decide) ?_
    refine v_invV (As := [.int 40]) (st := []) X (r_fail1 l q (n := 40) hS) (dk D_Rf_beginArgument 9 rfl) G_Rf_84 K_Rf_fail1 V_Rf_fail1 rfl rfl (hS.lt (by decide)) rfl rfl (Nat.le_of_ble_eq_true rfl) (Nat.le_of_ble_eq_true rfl) (Nat.le_of_ble_eq_true rfl) (Nat.le_of_ble_eq_true rfl) (Nat.le_of_ble_eq_true rfl) ?_
    rintro v w1 ⟨rfl, hw⟩
    rw [hw, if_pos he]
    show Vv _ _ _ _ _ _ _ _ _ _ _ _ _ _ _ [] (0, 0, (xI (xI g 1003 2 40) 1003 3 (gI g 1003 10)))
    refine v_aload_n X (dk D_Rf_beginArgument 10 rfl) rfl ?_
    refine v_getI X (dk D_Rf_beginArgument 11 rfl) F_Rf_72 rfl rfl (hS.lt (by decide)) ?_
    refine v_if_ne (tgt := 53) X (dk D_Rf_beginArgument 12 rfl) (by decide) (fun _ => ?_) (fun c27 => absurd c27 (by rw [gI_nk (by decide), gI_eq]; decide))
    exact v_vret X hlk hrt (dk D_Rf_beginArgument 26 rfl) ⟨rfl, (((rs.rf g _ _).fI (by decide)).fI (by decide)), fun z => absurd z c, fun _ => ⟨(gI_nk (by decide)).trans (gI_eq _ _ _ _), gI_eq _ _ _ _, (gI_nk (by decide)).trans (gI_nk (by decide))⟩⟩
theorem uiA_A {kd : Int32} {tk : List Int32} {S : Mst} {f : Fr} {r : List Fr} (hc : S.2.2.1 = (f :: r, false)) (k4 : kd = 4) (kb : atL tk (nI 0) = 41) (c1 : f.2.2.1 = 1) : usT kd tk S = (0, sF S ((f.1, f.2.1, f.2.2.1 - 1, f.2.2.2) :: r) true) := by
  rw [usT_f (by rw [hc]), if_neg (fun z => by rw [k4] at z; exact absurd z.1 (by decide)), uiA, if_pos k4, if_neg (fun z => by rw [kb] at z; exact absurd z.1 (by decide)), if_neg (fun z => by rw [kb] at z; exact absurd z.1 (by decide)), if_neg (by rw [kb]; decide), if_pos kb, if_pos c1]
theorem uiA_B {kd : Int32} {tk : List Int32} {S : Mst} {f : Fr} {r : List Fr} (hc : S.2.2.1 = (f :: r, false)) (k4 : kd = 4) (kb : atL tk (nI 0) = 44) (c1 : f.2.2.1 = 1) : usT kd tk S = if na (f :: r) < 8192 then (0, sF S ((f.1, f.2.1 ++ [[]], f.2.2.1, false) :: r) false) else (40, S) := by
  rw [usT_f (by rw [hc]), if_neg (fun z => by rw [k4] at z; exact absurd z.1 (by decide)), uiA, if_pos k4, if_neg (fun z => by rw [kb] at z; exact absurd z.1 (by decide)), if_pos ⟨kb, c1⟩]
theorem uiA_C {kd : Int32} {tk : List Int32} {S : Mst} {f : Fr} {r : List Fr} (hc : S.2.2.1 = (f :: r, false)) (k4 : kd = 4) (kb : isSpc (atL tk (nI 0)) = true) (hb : ¬ f.2.2.2 = true) : usT kd tk S = (0, S) := by
  rw [usT_f (by rw [hc]), if_neg (fun z => by rw [k4] at z; exact absurd z.1 (by decide)), uiA, if_pos k4, if_pos ⟨kb, hb⟩]
theorem AQ_e {w : mu_T} {fu : Nat} {tk : List Int32} {r : List Fr} {S : Mst} (hO : (oV tk r S).1 = 0) (hne : ¬ gI w 1003 2 = 0) (hX : XE w fu (rnD (oV tk r S).2)) : AQ w fu tk r S := by
  refine ⟨fun z => absurd z hne, fun _ tl => ?_⟩
  have hf : (oV tk r S).2.2.2.1.2 = false := by rw [oV]; split; rfl; split <;> rfl
  rw [oRr, if_neg (fun z => z hO), rnF_f hf]
  exact hX
theorem AQ_s {w : mu_T} {fu : Nat} {tk : List Int32} {r : List Fr} {S : Mst} (hO : (oV tk r S).1 = 0) (S3 : Mst) (f3 : Fr) (tl3 : Int32) (h1 : S3.2.2.1 = (f3 :: r, true)) (h2 : f3.1 = tk) (h3 : RZ w fu S3) (h4 : AR w (f3 :: r)) (h5 : OKP S3.2.2.2.1.1) (h6 : QN S3) (h7 : GV w []) (h8 : gI w 1003 2 = 0) (h9 : S3.1.2.2.1 ≤ S.1.2.2.1) (hX : rnF S3 tl3 = rnD (oV tk r S).2) : AQ w fu tk r S := by
  refine ⟨fun _ => ⟨S3, f3, tl3, h1, h2, h3, h4, h5, h6, h7, h9, fun tl => ?_⟩, fun z => absurd h8 z⟩
  have hf : (oV tk r S).2.2.2.1.2 = false := by rw [oV]; split; rfl; split <;> rfl
  rw [oRr, if_neg (fun z => z hO), rnF_f hf]
  exact hX.symm
set_option maxHeartbeats 4000000 in
set_option maxRecDepth 100000 in
theorem r_readArguments (l : Launch) (q : ev_T) {c d : Nat} (hH : HC l q c d) (hd : 5 ≤ d) : RAC l q c (d + 1) := by
  intro g fu S0 tk r hZ0 hA0 hrc hok0 hqn0 hV0 he0 hFO0 h40
  have hS := hZ0.1
  refine Ctr.mk (lb := [some (.ref 1003), none, none, none, none]) (by decide +kernel) (Nat.le_of_ble_eq_true rfl) rfl rfl ?_
  intro pp ee ss mm aa bb mt cd X hrt hlk hnm
  have fin : ∀ (lv bg : Int32) (h : mu_T), rs g h [2, 3, 4, 8, 9, 10, 11, 13, 15, 16, 18, 20, 21, 27, 28, 29, 32, 33, 34, 36, 37, 39, 40, 41, 42, 43, 44] [1006, 1007, 1008, 1009, 1010, 1011, 1012, 1013, 1014, 1015, 1016, 1017, 1018, 1019, 1020, 1021] → AQ h fu tk r S0 → Vv pp l ee (rmT (d + 1) 0 0) ss mm aa bb mt cd 5 q (MQ bb (Qw q (fun v w => v = none ∧ rs g w.2.2 [2, 3, 4, 8, 9, 10, 11, 13, 15, 16, 18, 20, 21, 27, 28, 29, 32, 33, 34, 36, 37, 39, 40, 41, 42, 43, 44] [1006, 1007, 1008, 1009, 1010, 1011, 1012, 1013, 1014, 1015, 1016, 1017, 1018, 1019, 1020, 1021] ∧ AQ w.2.2 fu tk r S0)) aa ss 0 0 (fun a => q.1 ≤ a)) 25 [some (.ref 1003), some (.int lv), some (.int bg), some (.int 0), none] [] (0, 0, h) := by
    intro lv bg h hs hQ
    have hSh := hs.S hS
    refine v_iload_n X (dk D_Rf_readArguments 15 rfl) rfl ?_
    refine v_if_eq (tgt := 201) X (dk D_Rf_readArguments 16 rfl) (by decide) (fun _ => ?_) (fun c26 => absurd rfl c26)
    exact v_vret X hlk hrt (dk D_Rf_readArguments 104 rfl) ⟨rfl, hs, hQ⟩
  have k0 : ∀ (lv bg b : Int32) (h : mu_T), rs g h [2, 3, 4, 8, 9, 10, 11, 13, 15, 16, 18, 20, 21, 27, 28, 29, 32, 33, 34, 36, 37, 39, 40, 41, 42, 43, 44] [1006, 1007, 1008, 1009, 1010, 1011, 1012, 1013, 1014, 1015, 1016, 1017, 1018, 1019, 1020, 1021] → AQ h fu tk r S0 → Vv pp l ee (rmT (d + 1) 0 0) ss mm aa bb mt cd 5 q (MQ bb (Qw q (fun v w => v = none ∧ rs g w.2.2 [2, 3, 4, 8, 9, 10, 11, 13, 15, 16, 18, 20, 21, 27, 28, 29, 32, 33, 34, 36, 37, 39, 40, 41, 42, 43, 44] [1006, 1007, 1008, 1009, 1010, 1011, 1012, 1013, 1014, 1015, 1016, 1017, 1018, 1019, 1020, 1021] ∧ AQ w.2.2 fu tk r S0)) aa ss 0 0 (fun a => q.1 ≤ a)) 181 [some (.ref 1003), some (.int lv), some (.int bg), some (.int 0), some (.int b)] [] (0, 0, h) := by
    intro lv bg b h hs hQ
    have hSh := hs.S hS
    refine v_iload_n X (dk D_Rf_readArguments 94 rfl) rfl ?_
    refine v_if_eq (tgt := 196) X (dk D_Rf_readArguments 95 rfl) (by decide) (fun _ => ?_) (fun c182 => absurd rfl c182)
    refine v_iconst (v := 0) X (dk D_Rf_readArguments 101 rfl) (by decide) ?_
    refine v_istore_n (lb := [some (.ref 1003), some (.int lv), some (.int bg), some (.int 0), some (.int b)]) X (dk D_Rf_readArguments 102 rfl) (by decide) rfl ?_
    refine v_goto (tgt := 25) X (dk D_Rf_readArguments 103 rfl) (by decide) ?_
    exact v_weak (la := [some (.ref 1003), some (.int lv), some (.int bg), some (.int 0), none]) ⟨rfl, rfl, rfl, rfl, trivial⟩ <| fin lv bg h hs hQ
  have kE : ∀ (lv bg b : Int32) (h : mu_T), rs g h [2, 3, 4, 8, 9, 10, 11, 13, 15, 16, 18, 20, 21, 27, 28, 29, 32, 33, 34, 36, 37, 39, 40, 41, 42, 43, 44] [1006, 1007, 1008, 1009, 1010, 1011, 1012, 1013, 1014, 1015, 1016, 1017, 1018, 1019, 1020, 1021] → (oV tk r S0).1 = 0 → ¬ gI h 1003 2 = 0 → XE h fu (rnD (oV tk r S0).2) → Vv pp l ee (rmT (d + 1) 0 0) ss mm aa bb mt cd 5 q (MQ bb (Qw q (fun v w => v = none ∧ rs g w.2.2 [2, 3, 4, 8, 9, 10, 11, 13, 15, 16, 18, 20, 21, 27, 28, 29, 32, 33, 34, 36, 37, 39, 40, 41, 42, 43, 44] [1006, 1007, 1008, 1009, 1010, 1011, 1012, 1013, 1014, 1015, 1016, 1017, 1018, 1019, 1020, 1021] ∧ AQ w.2.2 fu tk r S0)) aa ss 0 0 (fun a => q.1 ≤ a)) 181 [some (.ref 1003), some (.int lv), some (.int bg), some (.int 1), some (.int b)] [] (0, 0, h) := by
    intro lv bg b h hs hO hne hX
    have hSh := hs.S hS
    refine v_iload_n X (dk D_Rf_readArguments 94 rfl) rfl ?_
    refine v_if_eq (tgt := 196) X (dk D_Rf_readArguments 95 rfl) (by decide) (fun c182 => absurd c182 (by decide)) (fun _ => ?_)
    refine v_aload_n X (dk D_Rf_readArguments 96 rfl) rfl ?_
    refine v_getI X (dk D_Rf_readArguments 97 rfl) F_Rf_72 rfl rfl (hSh.lt (by decide)) ?_
    refine v_if_ne (tgt := 196) X (dk D_Rf_readArguments 98 rfl) (by decide) (fun _ => ?_) (fun c189 => absurd c189 hne)
    refine v_iconst (v := 0) X (dk D_Rf_readArguments 101 rfl) (by decide) ?_
    refine v_istore_n (lb := [some (.ref 1003), some (.int lv), some (.int bg), some (.int 0), some (.int b)]) X (dk D_Rf_readArguments 102 rfl) (by decide) rfl ?_
    refine v_goto (tgt := 25) X (dk D_Rf_readArguments 103 rfl) (by decide) ?_
    exact v_weak (la := [some (.ref 1003), some (.int lv), some (.int bg), some (.int 0), none]) ⟨rfl, rfl, rfl, rfl, trivial⟩ <| fin lv bg h hs (AQ_e hO hne hX)
  have loop : (oV tk r S0).1 = 0 → (oV tk r S0).2.1.2.2.1 ≤ S0.1.2.2.1 → ∀ (n : Nat), ∀ (S : Mst) (f : Fr) (h : mu_T), S.1.2.2.1 < n → S.1.2.2.1 ≤ S0.1.2.2.1 → RF h fu S → S.2.2.1.1 = f :: r → f.1 = tk → FO (f :: r) → rs g h [2, 3, 4, 8, 9, 10, 11, 13, 15, 16, 18, 20, 21, 27, 28, 29, 32, 33, 34, 36, 37, 39, 40, 41, 42, 43, 44] [1006, 1007, 1008, 1009, 1010, 1011, 1012, 1013, 1014, 1015, 1016, 1017, 1018, 1019, 1020, 1021] → rnD S = (rnD (oV tk r S0).2) → Vv pp l ee (rmT (d + 1) 0 0) ss mm aa bb mt cd 5 q (MQ bb (Qw q (fun v w => v = none ∧ rs g w.2.2 [2, 3, 4, 8, 9, 10, 11, 13, 15, 16, 18, 20, 21, 27, 28, 29, 32, 33, 34, 36, 37, 39, 40, 41, 42, 43, 44] [1006, 1007, 1008, 1009, 1010, 1011, 1012, 1013, 1014, 1015, 1016, 1017, 1018, 1019, 1020, 1021] ∧ AQ w.2.2 fu tk r S0)) aa ss 0 0 (fun a => q.1 ≤ a)) 25 [some (.ref 1003), some (.int (nI (f.2.2.1 - 1))), some (.int (if f.2.2.2 = true then 1 else 0)), some (.int 1), none] [] (0, 0, h) := by
    intro hO hOf n
    induction n with
    | zero => intro S f h hn; omega
    | succ n ih0 =>
      intro S f h hn hS0f hF hcs hft hFO hs hX
      have hSh := hF.1.1
      refine v_iload_n X (dk D_Rf_readArguments 15 rfl) rfl ?_
      refine v_if_eq (tgt := 201) X (dk D_Rf_readArguments 16 rfl) (by decide) (fun c26 => absurd c26 (by decide)) (fun _ => ?_)
      refine v_aload_n X (dk D_Rf_readArguments 17 rfl) rfl ?_
      refine v_invV (As := []) (st := []) X (r_readToken l q hSh hF.1.2.1 hF.2.2.2.2.2.2 hF.1.2.2.1) (dk D_Rf_readArguments 18 rfl) G_Rf_256 K_Rf_readToken V_Rf_readToken rfl rfl (hSh.lt (by decide)) rfl rfl (Nat.le_of_ble_eq_true rfl) (by dsimp only [rmT]; omega) (by dsimp only [rmT]; omega) (Nat.le_of_ble_eq_true rfl) (Nat.le_of_ble_eq_true rfl) ?_
      rintro v w1 ⟨rfl, b1, b2, b3, b4, b5, b6⟩
      have hs1 := hs.tr (b1.mono (by decide) (by decide))
      have S1 := hs1.S hS
      show Vv _ _ _ _ _ _ _ _ _ _ _ _ _ _ _ [] (0, 0, w1.2.2)
      skip
      have hZ := hF.1
      have hcs0 : S.2.2.1 = (f :: r, false) := by rw [← hcs, ← hF.2.2.1]
      have hXd : (if ¬ (rdT S.2.1.1 S.2.1.2 S.1).2.1 = 0 then ((rdT S.2.1.1 S.2.1.2 S.1).2.1, sI S (rdT S.2.1.1 S.2.1.2 S.1).2.2.1, nI (S.1.2.2.2 + 1)) else rn0 (rdT S.2.1.1 S.2.1.2 S.1).1 (rdT S.2.1.1 S.2.1.2 S.1).2.2.2 (sI S (rdT S.2.1.1 S.2.1.2 S.1).2.2.1) (nI (S.1.2.2.2 + 1))) = (rnD (oV tk r S0).2) := hX
      by_cases hne0e : ¬ (rdT S.2.1.1 S.2.1.2 S.1).2.1 = 0
      · have hne : ¬ gI w1.2.2 1003 2 = 0 := by rw [b4]; exact hne0e
        have hXE : XE w1.2.2 fu (rnD (oV tk r S0).2) := by
          rw [← hXd, if_pos hne0e]
          have hr : rA ((rdT S.2.1.1 S.2.1.2 S.1).2.1, sI S (rdT S.2.1.1 S.2.1.2 S.1).2.2.1, nI (S.1.2.2.2 + 1)) = (rdT S.2.1.1 S.2.1.2 S.1).2.1 := if_neg (fun z => hne0e z.1)
          rw [XE, hr]
          exact ⟨hne0e, b4, b5 hne0e, b2.2.2.2.2.2.2.2.1, (b1.2 28 (by decide)).trans hZ.2.2.2.2.1.cnt.1, (b1.2 29 (by decide)).trans hZ.2.2.2.2.1.cnt.2, _, hF.2.1.2.2.1, (b1.2 37 (by decide)).trans hF.2.1.2.1⟩
        refine v_aload_n X (dk D_Rf_readArguments 19 rfl) rfl ?_
        refine v_getI X (dk D_Rf_readArguments 20 rfl) F_Rf_72 rfl rfl (S1.lt (by decide)) ?_
        refine v_if_ne (tgt := 53) X (dk D_Rf_readArguments 21 rfl) (by decide) (fun _ => ?_) (fun c37 => absurd c37 hne)
        refine v_aload_n X (dk D_Rf_readArguments 28 rfl) rfl ?_
        refine v_getI X (dk D_Rf_readArguments 29 rfl) F_Rf_72 rfl rfl (S1.lt (by decide)) ?_
        refine v_if_ne (tgt := 81) X (dk D_Rf_readArguments 30 rfl) (by decide) (fun _ => ?_) (fun c57 => absurd c57 hne)
        refine v_iconst (v := -1) X (dk D_Rf_readArguments 42 rfl) (by decide) ?_
        refine v_istore (lb := [some (.ref 1003), some (.int (nI (f.2.2.1 - 1))), some (.int (if f.2.2.2 = true then 1 else 0)), some (.int 1), some (.int (-1))]) X (dk D_Rf_readArguments 43 rfl) (by decide) rfl ?_
        refine v_aload_n X (dk D_Rf_readArguments 44 rfl) rfl ?_
        refine v_getI X (dk D_Rf_readArguments 45 rfl) F_Rf_72 rfl rfl (S1.lt (by decide)) ?_
        refine v_if_ne (tgt := 102) X (dk D_Rf_readArguments 46 rfl) (by decide) (fun _ => ?_) (fun c88 => absurd c88 hne)
        refine v_iconst (v := 0) X (dk D_Rf_readArguments 52 rfl) (by decide) ?_
        refine v_istore_n (lb := [some (.ref 1003), some (.int (nI (f.2.2.1 - 1))), some (.int (if f.2.2.2 = true then 1 else 0)), some (.int 0), some (.int (-1))]) X (dk D_Rf_readArguments 53 rfl) (by decide) rfl ?_
        refine v_goto (tgt := 181) X (dk D_Rf_readArguments 54 rfl) (by decide) ?_
        exact k0 _ _ _ w1.2.2 hs1 (AQ_e hO hne hXE)
      have hne0x : (rdT S.2.1.1 S.2.1.2 S.1).2.1 = 0 := Decidable.not_not.mp hne0e
      have he1 : gI w1.2.2 1003 2 = 0 := b4.trans hne0x
      rw [if_neg hne0e] at hXd
      have hZ1 : RZ w1.2.2 fu (sI S (rdT S.2.1.1 S.2.1.2 S.1).2.2.1) := ⟨S1, b2, hZ.2.2.1.rs b1 (by decide) (by decide) (by decide) (by decide), hZ.2.2.2.1, hZ.2.2.2.2.1.rs b1 (by decide) (by decide), hZ.2.2.2.2.2.rs b1 (by decide) (by decide) (by decide) (by decide)⟩
      have hfl := rdT_fl (op := S.2.1.1) (cl := S.2.1.2) (I := S.1) hF.2.2.2.2.1.1
      by_cases hk0 : (rdT S.2.1.1 S.2.1.2 S.1).1 = 0
      · have hne3 : ¬ gI (xI (xI w1.2.2 1003 2 33) 1003 3 (gI w1.2.2 1003 10)) 1003 2 = 0 := by rw [gI_nk (by decide), gI_eq]; decide
        have z3 : rs w1.2.2 (xI (xI w1.2.2 1003 2 33) 1003 3 (gI w1.2.2 1003 10)) [2, 3] [] := ((rs.rf _ _ _).fI (by decide)).fI (by decide)
        have hXE : XE (xI (xI w1.2.2 1003 2 33) 1003 3 (gI w1.2.2 1003 10)) fu (rnD (oV tk r S0).2) := by
          rw [← hXd, hk0, rn0_0]
          have hr : rA (0, sI S (rdT S.2.1.1 S.2.1.2 S.1).2.2.1, nI (S.1.2.2.2 + 1)) = 33 := if_pos ⟨rfl, by show ¬ S.2.2.1.1 = []; rw [hcs]; exact fun z => by cases z⟩
          rw [XE, hr]
          exact ⟨by decide, (gI_nk (by decide)).trans (gI_eq _ _ _ _), by rw [gI_eq, if_neg (by decide)]; exact b2.2.2.2.2.2.1, (z3.2 4 (by decide)).trans b2.2.2.2.2.2.2.2.1, (z3.2 28 (by decide)).trans hZ1.2.2.2.2.1.cnt.1, (z3.2 29 (by decide)).trans hZ1.2.2.2.2.1.cnt.2, _, hF.2.1.2.2.1, (z3.2 37 (by decide)).trans ((b1.2 37 (by decide)).trans hF.2.1.2.1)⟩
        refine v_aload_n X (dk D_Rf_readArguments 19 rfl) rfl ?_
        refine v_getI X (dk D_Rf_readArguments 20 rfl) F_Rf_72 rfl rfl (S1.lt (by decide)) ?_
        refine v_if_ne (tgt := 53) X (dk D_Rf_readArguments 21 rfl) (by decide) (fun c37 => absurd he1 c37) (fun _ => ?_)
        refine v_aload_n X (dk D_Rf_readArguments 22 rfl) rfl ?_
        refine v_getI X (dk D_Rf_readArguments 23 rfl) F_Rf_126 rfl rfl (S1.lt (by decide)) ?_
        refine v_if_ne (tgt := 53) X (dk D_Rf_readArguments 24 rfl) (by decide) (fun c44 => absurd (b3.trans hk0) c44) (fun _ => ?_)
        refine v_aload_n X (dk D_Rf_readArguments 25 rfl) rfl ?_
        refine v_bipush (v := 33) X (dk D_Rf_readArguments 26 rfl) (by decide) ?_
        refine v_invV (As := [.int 33]) (st := []) X (r_fail1 l q (n := 33) S1) (dk D_Rf_readArguments 27 rfl) G_Rf_84 K_Rf_fail1 V_Rf_fail1 rfl rfl (S1.lt (by decide)) rfl rfl (Nat.le_of_ble_eq_true rfl) (by dsimp only [rmT]; omega) (by dsimp only [rmT]; omega) (Nat.le_of_ble_eq_true rfl) (Nat.le_of_ble_eq_true rfl) ?_
        rintro v w2 ⟨rfl, hw⟩
        rw [hw, if_pos he1]
        show Vv _ _ _ _ _ _ _ _ _ _ _ _ _ _ _ [] (0, 0, (xI (xI w1.2.2 1003 2 33) 1003 3 (gI w1.2.2 1003 10)))
        refine v_aload_n X (dk D_Rf_readArguments 28 rfl) rfl ?_
        refine v_getI X (dk D_Rf_readArguments 29 rfl) F_Rf_72 rfl rfl (S1.lt (by decide)) ?_
        refine v_if_ne (tgt := 81) X (dk D_Rf_readArguments 30 rfl) (by decide) (fun _ => ?_) (fun c57 => absurd c57 hne3)
        refine v_iconst (v := -1) X (dk D_Rf_readArguments 42 rfl) (by decide) ?_
        refine v_istore (lb := [some (.ref 1003), some (.int (nI (f.2.2.1 - 1))), some (.int (if f.2.2.2 = true then 1 else 0)), some (.int 1), some (.int (-1))]) X (dk D_Rf_readArguments 43 rfl) (by decide) rfl ?_
        refine v_aload_n X (dk D_Rf_readArguments 44 rfl) rfl ?_
        refine v_getI X (dk D_Rf_readArguments 45 rfl) F_Rf_72 rfl rfl (S1.lt (by decide)) ?_
        refine v_if_ne (tgt := 102) X (dk D_Rf_readArguments 46 rfl) (by decide) (fun _ => ?_) (fun c88 => absurd c88 hne3)
        refine v_iconst (v := 0) X (dk D_Rf_readArguments 52 rfl) (by decide) ?_
        refine v_istore_n (lb := [some (.ref 1003), some (.int (nI (f.2.2.1 - 1))), some (.int (if f.2.2.2 = true then 1 else 0)), some (.int 0), some (.int (-1))]) X (dk D_Rf_readArguments 53 rfl) (by decide) rfl ?_
        refine v_goto (tgt := 181) X (dk D_Rf_readArguments 54 rfl) (by decide) ?_
        exact k0 _ _ _ _ (hs1.tr (z3.mono (by decide) (by decide))) (AQ_e hO hne3 hXE)
      have hA1f : AR w1.2.2 (f :: r) := by
        have := hF.2.1.rs b1 (by decide) (by decide) (by decide)
        rw [hcs] at this; exact this
      have hV1 := hF.2.2.2.2.2.1.rs b1 (by decide) (by decide)
      have hflt := hfl.2 hk0 hne0x
      have hok := hF.2.2.2.1
      have hqn := hF.2.2.2.2.1
      have hRX : RX (sI S (rdT S.2.1.1 S.2.1.2 S.1).2.2.1) := ⟨⟨hF.2.2.1, by show FO S.2.2.1.1; rw [hcs]; exact hFO, hok⟩, hqn⟩
      have hk41 : (rdT S.2.1.1 S.2.1.2 S.1).1 = 4 → (rdT S.2.1.1 S.2.1.2 S.1).2.2.2.length = 1 := fun z => rdT_4 z hne0x
      rw [rn0_s hRX hk41 hk0] at hXd
      have step : ∀ (kd b : Int32) (tk1 : List Int32) (S1' : Mst), kd = (rdT S.2.1.1 S.2.1.2 S.1).1 → tk1 = (rdT S.2.1.1 S.2.1.2 S.1).2.2.2 → S1' = sI S (rdT S.2.1.1 S.2.1.2 S.1).2.2.1 → (kd = 4 → b = atL tk1 (nI 0)) → (¬ kd = 4 → b = -1) → Vv pp l ee (rmT (d + 1) 0 0) ss mm aa bb mt cd 5 q (MQ bb (Qw q (fun v w => v = none ∧ rs g w.2.2 [2, 3, 4, 8, 9, 10, 11, 13, 15, 16, 18, 20, 21, 27, 28, 29, 32, 33, 34, 36, 37, 39, 40, 41, 42, 43, 44] [1006, 1007, 1008, 1009, 1010, 1011, 1012, 1013, 1014, 1015, 1016, 1017, 1018, 1019, 1020, 1021] ∧ AQ w.2.2 fu tk r S0)) aa ss 0 0 (fun a => q.1 ≤ a)) 91 [some (.ref 1003), some (.int (nI (f.2.2.1 - 1))), some (.int (if f.2.2.2 = true then 1 else 0)), some (.int 1), some (.int b)] [] (0, 0, w1.2.2) := by
        intro kd b tk1 S1' ekd etk eS1 hb4 hbn
        have hX1 : (if ¬ (usT kd tk1 S1').1 = 0 then ((usT kd tk1 S1').1, (usT kd tk1 S1').2, nI (S.1.2.2.2 + 1)) else rnF (usT kd tk1 S1').2 (nI (S.1.2.2.2 + 1))) = (rnD (oV tk r S0).2) := by rw [ekd, etk, eS1]; exact hXd
        have hkd : gI w1.2.2 1003 16 = kd := b3.trans ekd.symm
        have hTK : TK w1.2.2 tk1 := by rw [etk]; exact b6
        have hk4 : kd = 4 → tk1.length = 1 := fun z => by rw [etk]; exact hk41 (ekd.symm.trans z)
        have hcs1 : S1'.2.2.1 = (f :: r, false) := by rw [eS1]; exact hcs0
        have hfS : S1'.1.2.2.1 < n := by rw [eS1]; show (rdT S.2.1.1 S.2.1.2 S.1).2.2.1.2.2.1 < n; omega
        have hfuS : S1'.1.2.2.1 ≤ S0.1.2.2.1 := by rw [eS1]; show (rdT S.2.1.1 S.2.1.2 S.1).2.2.1.2.2.1 ≤ _; omega
        have hZ1 : RZ w1.2.2 fu S1' := by rw [eS1]; exact hZ1
        have hok : OKP S1'.2.2.2.1.1 := by rw [eS1]; exact hok
        have hqn : QN S1' := by rw [eS1]; exact hqn
        have hA1 : AR w1.2.2 S1'.2.2.1.1 := by rw [hcs1]; exact hA1f
        have hfr := hFO f (List.mem_cons_self ..)
        have hne0 := hfr.1
        have hflat : f.2.1.flatten.length ≤ 16384 := by
          have := hA1f.1.2.2
          rw [hl, List.length_append, List.length_append] at this
          omega
        have hlv : nI (f.2.2.1 - 1) = 0 → f.2.2.1 = 1 := fun z => by
          have := (nI_eq (a := f.2.2.1 - 1) (b := 0) (by omega) (by decide)).mp z
          omega
        have hcl : ((f.1, f.2.1, lvN kd tk1 f.2.2.1, f.2.2.2) :: r).length = c := by rw [List.length_cons]; exact hrc
        have hbk : ∀ x : Int32, ¬ x = -1 → b = x → kd = 4 ∧ atL tk1 (nI 0) = x := fun x hx e => by
          by_cases c4 : kd = 4
          · exact ⟨c4, (hb4 c4).symm.trans e⟩
          · exact absurd (e.symm.trans (hbn c4)) hx
        have hbk2 : isBlk b = true → kd = 4 := fun e => by
          by_cases c4 : kd = 4
          · exact c4
          · rw [hbn c4] at e; exact absurd e (by decide)
        have hX1s : usT kd tk1 S1' = (0, S1') → rnD S1' = (rnD (oV tk r S0).2) := fun e => by
          rw [← hX1, e, if_neg (fun z => z rfl), rnF_f (by rw [hcs1])]
        have ih := ih0
        have kS : rnD S1' = (rnD (oV tk r S0).2) → Vv pp l ee (rmT (d + 1) 0 0) ss mm aa bb mt cd 5 q (MQ bb (Qw q (fun v w => v = none ∧ rs g w.2.2 [2, 3, 4, 8, 9, 10, 11, 13, 15, 16, 18, 20, 21, 27, 28, 29, 32, 33, 34, 36, 37, 39, 40, 41, 42, 43, 44] [1006, 1007, 1008, 1009, 1010, 1011, 1012, 1013, 1014, 1015, 1016, 1017, 1018, 1019, 1020, 1021] ∧ AQ w.2.2 fu tk r S0)) aa ss 0 0 (fun a => q.1 ≤ a)) 181 [some (.ref 1003), some (.int (nI (f.2.2.1 - 1))), some (.int (if f.2.2.2 = true then 1 else 0)), some (.int 1), some (.int b)] [] (0, 0, w1.2.2) := by
          intro hsk
          refine v_iload_n X (dk D_Rf_readArguments 94 rfl) rfl ?_
          refine v_if_eq (tgt := 196) X (dk D_Rf_readArguments 95 rfl) (by decide) (fun c182 => absurd c182 (by decide)) (fun _ => ?_)
          refine v_aload_n X (dk D_Rf_readArguments 96 rfl) rfl ?_
          refine v_getI X (dk D_Rf_readArguments 97 rfl) F_Rf_72 rfl rfl (S1.lt (by decide)) ?_
          refine v_if_ne (tgt := 196) X (dk D_Rf_readArguments 98 rfl) (by decide) (fun c189 => absurd he1 c189) (fun _ => ?_)
          refine v_iconst (v := 1) X (dk D_Rf_readArguments 99 rfl) (by decide) ?_
          refine v_goto (tgt := 197) X (dk D_Rf_readArguments 100 rfl) (by decide) ?_
          refine v_istore_n (lb := [some (.ref 1003), some (.int (nI (f.2.2.1 - 1))), some (.int (if f.2.2.2 = true then 1 else 0)), some (.int 1), some (.int b)]) X (dk D_Rf_readArguments 102 rfl) (by decide) rfl ?_
          refine v_goto (tgt := 25) X (dk D_Rf_readArguments 103 rfl) (by decide) ?_
          exact v_weak (la := [some (.ref 1003), some (.int (nI (f.2.2.1 - 1))), some (.int (if f.2.2.2 = true then 1 else 0)), some (.int 1), none]) ⟨rfl, rfl, rfl, rfl, trivial⟩ <| ih S1' f w1.2.2 hfS hfuS ⟨hZ1, hA1, (by rw [hcs1]), hok, hqn, hV1, he1⟩ (by rw [hcs1]) hft hFO hs1 hsk
        have k146 : usT kd tk1 S1' = hU kd tk1 (sF S1' ((f.1, f.2.1, lvN kd tk1 f.2.2.1, f.2.2.2) :: r) false) → (b = 41 → ¬ f.2.2.1 = 1) → ∀ (bg : Int32), Vv pp l ee (rmT (d + 1) 0 0) ss mm aa bb mt cd 5 q (MQ bb (Qw q (fun v w => v = none ∧ rs g w.2.2 [2, 3, 4, 8, 9, 10, 11, 13, 15, 16, 18, 20, 21, 27, 28, 29, 32, 33, 34, 36, 37, 39, 40, 41, 42, 43, 44] [1006, 1007, 1008, 1009, 1010, 1011, 1012, 1013, 1014, 1015, 1016, 1017, 1018, 1019, 1020, 1021] ∧ AQ w.2.2 fu tk r S0)) aa ss 0 0 (fun a => q.1 ≤ a)) 146 [some (.ref 1003), some (.int (nI (f.2.2.1 - 1))), some (.int bg), some (.int 1), some (.int b)] [] (0, 0, w1.2.2) := by
          intro hus h41 bg
          have hlv0 : 0 < lvN kd tk1 f.2.2.1 := by
            rw [lvN]; split
            · omega
            · split
              · rename_i z1 z; have := h41 (by rw [hb4 z.1]; exact z.2); omega
              · omega
          have hlvb : ∀ as : List (List Int32), f.2.1.flatten.length ≤ as.flatten.length → (kd = 4 → as.flatten.length = f.2.1.flatten.length + tk1.length) → lvN kd tk1 f.2.2.1 ≤ 1 + as.flatten.length := by
            intro as a1 a2
            rw [lvN]; split
            · rename_i z; have := a2 z.1; rw [hk4 z.1] at this; omega
            · split <;> omega
          have hFO3 : kd = 3 → FO ((f.1, f.2.1, lvN kd tk1 f.2.2.1, f.2.2.2) :: r) := fun z => by
            have e : lvN kd tk1 f.2.2.1 = f.2.2.1 := by rw [lvN, if_neg (fun y => by rw [z] at y; exact absurd y.1 (by decide)), if_neg (fun y => by rw [z] at y; exact absurd y.1 (by decide))]
            rw [e]; exact hFO
          have hne1 : ∀ x ∈ (f.1, f.2.1, lvN kd tk1 f.2.2.1, f.2.2.2) :: r, x.2.1 ≠ [] := fun x hx => by
            rcases List.mem_cons.mp hx with e | e
            · rw [e]; exact hne0
            · exact (FO_tl hFO x e).1
          have k146b : ∀ (w2 : mm_T), rs g w2.2.2 [2, 3, 4, 8, 9, 10, 11, 13, 15, 16, 18, 20, 21, 27, 28, 29, 32, 33, 34, 36, 37, 39, 40, 41, 42, 43, 44] [1006, 1007, 1008, 1009, 1010, 1011, 1012, 1013, 1014, 1015, 1016, 1017, 1018, 1019, 1020, 1021] → Shp w2.2.2 → HP w2.2.2 fu (sF S1' ((f.1, f.2.1, lvN kd tk1 f.2.2.1, f.2.2.2) :: r) false) kd tk1 → Vv pp l ee (rmT (d + 1) 0 0) ss mm aa bb mt cd 5 q (MQ bb (Qw q (fun v w => v = none ∧ rs g w.2.2 [2, 3, 4, 8, 9, 10, 11, 13, 15, 16, 18, 20, 21, 27, 28, 29, 32, 33, 34, 36, 37, 39, 40, 41, 42, 43, 44] [1006, 1007, 1008, 1009, 1010, 1011, 1012, 1013, 1014, 1015, 1016, 1017, 1018, 1019, 1020, 1021] ∧ AQ w.2.2 fu tk r S0)) aa ss 0 0 (fun a => q.1 ≤ a)) 181 [some (.ref 1003), some (.int (nI (lvN kd tk1 f.2.2.1 - 1))), some (.int 1), some (.int 1), some (.int b)] [] (0, 0, w2.2.2) := by
            intro w2 zz S2h hHP
            have hXh : hR kd tk1 (sF S1' ((f.1, f.2.1, lvN kd tk1 f.2.2.1, f.2.2.2) :: r) false) (nI (S.1.2.2.2 + 1)) = (rnD (oV tk r S0).2) := by
              rw [← hX1, hR, ← hus]
            by_cases he2 : gI w2.2.2 1003 2 = 0
            · obtain ⟨S2, r1, ⟨as, c1, c2, c3, c4⟩, r2, r3⟩ := hHP.1 he2
              refine v_iload_n X (dk D_Rf_readArguments 94 rfl) rfl ?_
              refine v_if_eq (tgt := 196) X (dk D_Rf_readArguments 95 rfl) (by decide) (fun c182 => absurd c182 (by decide)) (fun _ => ?_)
              refine v_aload_n X (dk D_Rf_readArguments 96 rfl) rfl ?_
              refine v_getI X (dk D_Rf_readArguments 97 rfl) F_Rf_72 rfl rfl (S2h.lt (by decide)) ?_
              refine v_if_ne (tgt := 196) X (dk D_Rf_readArguments 98 rfl) (by decide) (fun c189 => absurd he2 c189) (fun _ => ?_)
              refine v_iconst (v := 1) X (dk D_Rf_readArguments 99 rfl) (by decide) ?_
              refine v_goto (tgt := 197) X (dk D_Rf_readArguments 100 rfl) (by decide) ?_
              refine v_istore_n (lb := [some (.ref 1003), some (.int (nI (lvN kd tk1 f.2.2.1 - 1))), some (.int 1), some (.int 1), some (.int b)]) X (dk D_Rf_readArguments 102 rfl) (by decide) rfl ?_
              refine v_goto (tgt := 25) X (dk D_Rf_readArguments 103 rfl) (by decide) ?_
              exact v_weak (la := [some (.ref 1003), some (.int (nI (lvN kd tk1 f.2.2.1 - 1))), some (.int 1), some (.int 1), none]) ⟨rfl, rfl, rfl, rfl, trivial⟩ <| ih S2 (f.1, as, lvN kd tk1 f.2.2.1, true) w2.2.2 (by have : S2.1.2.2.1 ≤ S1'.1.2.2.1 := r2; omega) (by have : S2.1.2.2.1 ≤ S1'.1.2.2.1 := r2; omega) r1 c1 hft (FO_cons ⟨fun z => hne0 (List.length_eq_zero_iff.mp (by rw [← c2]; exact List.length_eq_zero_iff.mpr z)), hlv0, hlvb as c3 c4⟩ (FO_tl hFO)) zz ((r3 _).symm.trans hXh)
            · exact kE _ _ _ w2.2.2 zz hO he2 (by rw [← hXh]; exact hHP.2 he2 _)
          by_cases c40 : b = 40
          · have el : lvN kd tk1 f.2.2.1 = f.2.2.1 + 1 := by rw [lvN, if_pos (hbk 40 (by decide) c40)]
            refine v_iconst (v := 1) X (dk D_Rf_readArguments 73 rfl) (by decide) ?_
            refine v_istore_n (lb := [some (.ref 1003), some (.int (nI (f.2.2.1 - 1))), some (.int 1), some (.int 1), some (.int b)]) X (dk D_Rf_readArguments 74 rfl) (by decide) rfl ?_
            refine v_iload X (dk D_Rf_readArguments 75 rfl) rfl ?_
            refine v_bipush (v := 40) X (dk D_Rf_readArguments 76 rfl) (by decide) ?_
            refine v_icmp_ne (tgt := 161) X (dk D_Rf_readArguments 77 rfl) (by decide) (fun c152 => absurd c40 c152) (fun _ => ?_)
            refine v_iload_n X (dk D_Rf_readArguments 78 rfl) rfl ?_
            refine v_iconst (v := 1) X (dk D_Rf_readArguments 79 rfl) (by decide) ?_
            refine v_iadd X (dk D_Rf_readArguments 80 rfl) ?_
            rw [nI_1, show f.2.2.1 - 1 + 1 = lvN kd tk1 f.2.2.1 - 1 by omega]
            refine v_goto (tgt := 175) X (dk D_Rf_readArguments 81 rfl) (by decide) ?_
            refine v_istore_n (lb := [some (.ref 1003), some (.int (nI (lvN kd tk1 f.2.2.1 - 1))), some (.int 1), some (.int 1), some (.int b)]) X (dk D_Rf_readArguments 90 rfl) (by decide) rfl ?_
            refine v_aload_n X (dk D_Rf_readArguments 91 rfl) rfl ?_
            refine v_iconst (v := 1) X (dk D_Rf_readArguments 92 rfl) (by decide) ?_
            refine v_invV (As := [.int 1]) (st := []) X (hH _ fu (sF S1' ((f.1, f.2.1, lvN kd tk1 f.2.2.1, f.2.2.2) :: r) false) kd tk1 ⟨hZ1, (show AR _ ((f.1, f.2.1, lvN kd tk1 f.2.2.1, f.2.2.2) :: r) from hA1f), rfl, hok, hqn, hV1, he1⟩ hcl hne1 hTK hkd hFO3) (dk D_Rf_readArguments 93 rfl) G_Rf_265 K_Rf_handle V_Rf_handle rfl rfl (S1.lt (by decide)) rfl rfl (Nat.le_of_ble_eq_true rfl) (by dsimp only [rmT]; omega) (by dsimp only [rmT]; omega) (Nat.le_of_ble_eq_true rfl) (Nat.le_of_ble_eq_true rfl) ?_
            rintro v w2 ⟨rfl, z2, hHP⟩
            have zz := hs1.tr z2
            have S2h := zz.S hS
            show Vv _ _ _ _ _ _ _ _ _ _ _ _ _ _ _ [] (0, 0, w2.2.2)
            exact k146b w2 zz S2h hHP
          by_cases c41 : b = 41
          · have h411 := h41 c41
            have el : lvN kd tk1 f.2.2.1 = f.2.2.1 - 1 := by rw [lvN, if_neg (fun z => c40 ((hb4 z.1).trans z.2)), if_pos (hbk 41 (by decide) c41)]
            refine v_iconst (v := 1) X (dk D_Rf_readArguments 73 rfl) (by decide) ?_
            refine v_istore_n (lb := [some (.ref 1003), some (.int (nI (f.2.2.1 - 1))), some (.int 1), some (.int 1), some (.int b)]) X (dk D_Rf_readArguments 74 rfl) (by decide) rfl ?_
            refine v_iload X (dk D_Rf_readArguments 75 rfl) rfl ?_
            refine v_bipush (v := 40) X (dk D_Rf_readArguments 76 rfl) (by decide) ?_
            refine v_icmp_ne (tgt := 161) X (dk D_Rf_readArguments 77 rfl) (by decide) (fun _ => ?_) (fun c152 => absurd c152 c40)
            refine v_iload X (dk D_Rf_readArguments 82 rfl) rfl ?_
            refine v_bipush (v := 41) X (dk D_Rf_readArguments 83 rfl) (by decide) ?_
            refine v_icmp_ne (tgt := 174) X (dk D_Rf_readArguments 84 rfl) (by decide) (fun c165 => absurd c41 c165) (fun _ => ?_)
            refine v_iload_n X (dk D_Rf_readArguments 85 rfl) rfl ?_
            refine v_iconst (v := 1) X (dk D_Rf_readArguments 86 rfl) (by decide) ?_
            refine v_isub X (dk D_Rf_readArguments 87 rfl) ?_
            rw [show nI (f.2.2.1 - 1) - 1 = nI (lvN kd tk1 f.2.2.1 - 1) from by rw [show (1 : Int32) = nI 1 from rfl, pk_sub (by omega), show f.2.2.1 - 1 - 1 = lvN kd tk1 f.2.2.1 - 1 by omega]]
            refine v_goto (tgt := 175) X (dk D_Rf_readArguments 88 rfl) (by decide) ?_
            refine v_istore_n (lb := [some (.ref 1003), some (.int (nI (lvN kd tk1 f.2.2.1 - 1))), some (.int 1), some (.int 1), some (.int b)]) X (dk D_Rf_readArguments 90 rfl) (by decide) rfl ?_
            refine v_aload_n X (dk D_Rf_readArguments 91 rfl) rfl ?_
            refine v_iconst (v := 1) X (dk D_Rf_readArguments 92 rfl) (by decide) ?_
            refine v_invV (As := [.int 1]) (st := []) X (hH _ fu (sF S1' ((f.1, f.2.1, lvN kd tk1 f.2.2.1, f.2.2.2) :: r) false) kd tk1 ⟨hZ1, (show AR _ ((f.1, f.2.1, lvN kd tk1 f.2.2.1, f.2.2.2) :: r) from hA1f), rfl, hok, hqn, hV1, he1⟩ hcl hne1 hTK hkd hFO3) (dk D_Rf_readArguments 93 rfl) G_Rf_265 K_Rf_handle V_Rf_handle rfl rfl (S1.lt (by decide)) rfl rfl (Nat.le_of_ble_eq_true rfl) (by dsimp only [rmT]; omega) (by dsimp only [rmT]; omega) (Nat.le_of_ble_eq_true rfl) (Nat.le_of_ble_eq_true rfl) ?_
            rintro v w2 ⟨rfl, z2, hHP⟩
            have zz := hs1.tr z2
            have S2h := zz.S hS
            show Vv _ _ _ _ _ _ _ _ _ _ _ _ _ _ _ [] (0, 0, w2.2.2)
            exact k146b w2 zz S2h hHP
          · have el : lvN kd tk1 f.2.2.1 = f.2.2.1 := by rw [lvN, if_neg (fun z => c40 ((hb4 z.1).trans z.2)), if_neg (fun z => c41 ((hb4 z.1).trans z.2))]
            refine v_iconst (v := 1) X (dk D_Rf_readArguments 73 rfl) (by decide) ?_
            refine v_istore_n (lb := [some (.ref 1003), some (.int (nI (f.2.2.1 - 1))), some (.int 1), some (.int 1), some (.int b)]) X (dk D_Rf_readArguments 74 rfl) (by decide) rfl ?_
            refine v_iload X (dk D_Rf_readArguments 75 rfl) rfl ?_
            refine v_bipush (v := 40) X (dk D_Rf_readArguments 76 rfl) (by decide) ?_
            refine v_icmp_ne (tgt := 161) X (dk D_Rf_readArguments 77 rfl) (by decide) (fun _ => ?_) (fun c152 => absurd c152 c40)
            refine v_iload X (dk D_Rf_readArguments 82 rfl) rfl ?_
            refine v_bipush (v := 41) X (dk D_Rf_readArguments 83 rfl) (by decide) ?_
            refine v_icmp_ne (tgt := 174) X (dk D_Rf_readArguments 84 rfl) (by decide) (fun _ => ?_) (fun c165 => absurd c165 c41)
            refine v_iload_n X (dk D_Rf_readArguments 89 rfl) rfl ?_
            rw [show f.2.2.1 - 1 = lvN kd tk1 f.2.2.1 - 1 by omega]
            refine v_istore_n (lb := [some (.ref 1003), some (.int (nI (lvN kd tk1 f.2.2.1 - 1))), some (.int 1), some (.int 1), some (.int b)]) X (dk D_Rf_readArguments 90 rfl) (by decide) rfl ?_
            refine v_aload_n X (dk D_Rf_readArguments 91 rfl) rfl ?_
            refine v_iconst (v := 1) X (dk D_Rf_readArguments 92 rfl) (by decide) ?_
            refine v_invV (As := [.int 1]) (st := []) X (hH _ fu (sF S1' ((f.1, f.2.1, lvN kd tk1 f.2.2.1, f.2.2.2) :: r) false) kd tk1 ⟨hZ1, (show AR _ ((f.1, f.2.1, lvN kd tk1 f.2.2.1, f.2.2.2) :: r) from hA1f), rfl, hok, hqn, hV1, he1⟩ hcl hne1 hTK hkd hFO3) (dk D_Rf_readArguments 93 rfl) G_Rf_265 K_Rf_handle V_Rf_handle rfl rfl (S1.lt (by decide)) rfl rfl (Nat.le_of_ble_eq_true rfl) (by dsimp only [rmT]; omega) (by dsimp only [rmT]; omega) (Nat.le_of_ble_eq_true rfl) (Nat.le_of_ble_eq_true rfl) ?_
            rintro v w2 ⟨rfl, z2, hHP⟩
            have zz := hs1.tr z2
            have S2h := zz.S hS
            show Vv _ _ _ _ _ _ _ _ _ _ _ _ _ _ _ [] (0, 0, w2.2.2)
            exact k146b w2 zz S2h hHP
        have k127 : (b = 44 → ¬ f.2.2.1 = 1) → (b = 41 → ¬ f.2.2.1 = 1) → Vv pp l ee (rmT (d + 1) 0 0) ss mm aa bb mt cd 5 q (MQ bb (Qw q (fun v w => v = none ∧ rs g w.2.2 [2, 3, 4, 8, 9, 10, 11, 13, 15, 16, 18, 20, 21, 27, 28, 29, 32, 33, 34, 36, 37, 39, 40, 41, 42, 43, 44] [1006, 1007, 1008, 1009, 1010, 1011, 1012, 1013, 1014, 1015, 1016, 1017, 1018, 1019, 1020, 1021] ∧ AQ w.2.2 fu tk r S0)) aa ss 0 0 (fun a => q.1 ≤ a)) 127 [some (.ref 1003), some (.int (nI (f.2.2.1 - 1))), some (.int (if f.2.2.2 = true then 1 else 0)), some (.int 1), some (.int b)] [] (0, 0, w1.2.2) := by
          intro h44 h41
          by_cases hbg : f.2.2.2 = true
          · skip
            refine v_iload_n X (dk D_Rf_readArguments 65 rfl) rfl ?_
            refine v_if_ne (tgt := 146) X (dk D_Rf_readArguments 66 rfl) (by decide) (fun _ => ?_) (fun c128 => absurd c128 (by rw [if_pos hbg]; decide))
            exact k146 (usT_D hcs1 (fun z => z.2.2 hbg) (fun z => h44 ((hb4 z.1).trans z.2.1) z.2.2) (fun z => h41 ((hb4 z.1).trans z.2.1) z.2.2)) h41 _
          by_cases c10 : b = 10
          · skip
            refine v_iload_n X (dk D_Rf_readArguments 65 rfl) rfl ?_
            refine v_if_ne (tgt := 146) X (dk D_Rf_readArguments 66 rfl) (by decide) (fun c128 => absurd (if_neg hbg) c128) (fun _ => ?_)
            refine v_iload X (dk D_Rf_readArguments 67 rfl) rfl ?_
            refine v_bipush (v := 10) X (dk D_Rf_readArguments 68 rfl) (by decide) ?_
            refine v_icmp_eq (tgt := 181) X (dk D_Rf_readArguments 69 rfl) (by decide) (fun _ => ?_) (fun c135 => absurd c10 c135)
            exact kS (hX1s (uiA_C hcs1 (hbk 10 (by decide) c10).1 (by rw [(hbk 10 (by decide) c10).2]; decide) hbg))
          by_cases hbl : isBlk b = true
          · skip
            refine v_iload_n X (dk D_Rf_readArguments 65 rfl) rfl ?_
            refine v_if_ne (tgt := 146) X (dk D_Rf_readArguments 66 rfl) (by decide) (fun c128 => absurd (if_neg hbg) c128) (fun _ => ?_)
            refine v_iload X (dk D_Rf_readArguments 67 rfl) rfl ?_
            refine v_bipush (v := 10) X (dk D_Rf_readArguments 68 rfl) (by decide) ?_
            refine v_icmp_eq (tgt := 181) X (dk D_Rf_readArguments 69 rfl) (by decide) (fun c135 => absurd c135 c10) (fun _ => ?_)
            refine v_iload X (dk D_Rf_readArguments 70 rfl) rfl ?_
            refine v_invS (As := [.int b]) (st := []) X (r_isBlank l q (b := b) (g := w1.2.2)) (dk D_Rf_readArguments 71 rfl) G_Rf_262 K_Rf_isBlank S_Rf_isBlank rfl rfl (Nat.le_of_ble_eq_true rfl) (by dsimp only [rmT]; omega) (by dsimp only [rmT]; omega) (Nat.le_of_ble_eq_true rfl) (Nat.le_of_ble_eq_true rfl) ?_
            rintro v ws ⟨rfl, hws⟩
            rw [hws, if_pos hbl]
            show Vv _ _ _ _ _ _ _ _ _ _ _ _ _ _ _ [.int 1] (0, 0, w1.2.2)
            refine v_if_ne (tgt := 181) X (dk D_Rf_readArguments 72 rfl) (by decide) (fun _ => ?_) (fun c143 => absurd c143 (by decide))
            exact kS (hX1s (uiA_C hcs1 (hbk2 hbl) (by rw [← hb4 (hbk2 hbl)]; exact (spc_iff b).mpr (Or.inl hbl)) hbg))
          · skip
            refine v_iload_n X (dk D_Rf_readArguments 65 rfl) rfl ?_
            refine v_if_ne (tgt := 146) X (dk D_Rf_readArguments 66 rfl) (by decide) (fun c128 => absurd (if_neg hbg) c128) (fun _ => ?_)
            refine v_iload X (dk D_Rf_readArguments 67 rfl) rfl ?_
            refine v_bipush (v := 10) X (dk D_Rf_readArguments 68 rfl) (by decide) ?_
            refine v_icmp_eq (tgt := 181) X (dk D_Rf_readArguments 69 rfl) (by decide) (fun c135 => absurd c135 c10) (fun _ => ?_)
            refine v_iload X (dk D_Rf_readArguments 70 rfl) rfl ?_
            refine v_invS (As := [.int b]) (st := []) X (r_isBlank l q (b := b) (g := w1.2.2)) (dk D_Rf_readArguments 71 rfl) G_Rf_262 K_Rf_isBlank S_Rf_isBlank rfl rfl (Nat.le_of_ble_eq_true rfl) (by dsimp only [rmT]; omega) (by dsimp only [rmT]; omega) (Nat.le_of_ble_eq_true rfl) (Nat.le_of_ble_eq_true rfl) ?_
            rintro v ws ⟨rfl, hws⟩
            rw [hws, if_neg hbl]
            show Vv _ _ _ _ _ _ _ _ _ _ _ _ _ _ _ [.int 0] (0, 0, w1.2.2)
            refine v_if_ne (tgt := 181) X (dk D_Rf_readArguments 72 rfl) (by decide) (fun c143 => absurd rfl c143) (fun _ => ?_)
            exact k146 (usT_D hcs1 (fun z => by rw [← hb4 z.1] at z; exact ((spc_iff b).mp z.2.1).elim hbl c10) (fun z => h44 ((hb4 z.1).trans z.2.1) z.2.2) (fun z => h41 ((hb4 z.1).trans z.2.1) z.2.2)) h41 _
        have k107b : b = 44 → f.2.2.1 = 1 → ∀ (w2 : mm_T), rs w1.2.2 w2.2.2 [2, 3, 37] [1019] → (na (f :: r) < 8192 → gI w2.2.2 1003 2 = 0 ∧ ∀ a b, AR w2.2.2 ((f.1, f.2.1 ++ [[]], a, b) :: r)) → (¬ na (f :: r) < 8192 → gI w2.2.2 1003 2 = 40 ∧ gI w2.2.2 1003 3 = gI w1.2.2 1003 10 ∧ gI w2.2.2 1003 37 = gI w1.2.2 1003 37) → rs g w2.2.2 [2, 3, 4, 8, 9, 10, 11, 13, 15, 16, 18, 20, 21, 27, 28, 29, 32, 33, 34, 36, 37, 39, 40, 41, 42, 43, 44] [1006, 1007, 1008, 1009, 1010, 1011, 1012, 1013, 1014, 1015, 1016, 1017, 1018, 1019, 1020, 1021] → Shp w2.2.2 → Vv pp l ee (rmT (d + 1) 0 0) ss mm aa bb mt cd 5 q (MQ bb (Qw q (fun v w => v = none ∧ rs g w.2.2 [2, 3, 4, 8, 9, 10, 11, 13, 15, 16, 18, 20, 21, 27, 28, 29, 32, 33, 34, 36, 37, 39, 40, 41, 42, 43, 44] [1006, 1007, 1008, 1009, 1010, 1011, 1012, 1013, 1014, 1015, 1016, 1017, 1018, 1019, 1020, 1021] ∧ AQ w.2.2 fu tk r S0)) aa ss 0 0 (fun a => q.1 ≤ a)) 181 [some (.ref 1003), some (.int (nI (f.2.2.1 - 1))), some (.int 0), some (.int 1), some (.int b)] [] (0, 0, w2.2.2) := by
          intro c44 c1 w2 a1 a2 a3 zz S2h
          obtain ⟨k4, kb⟩ := hbk 44 (by decide) c44
          have hu0 := uiA_B (r := r) hcs1 k4 kb c1
          by_cases hna : na (f :: r) < 8192
          · have hus : usT kd tk1 S1' = (0, sF S1' ((f.1, f.2.1 ++ [[]], f.2.2.1, false) :: r) false) := hu0.trans (if_pos hna)
            refine v_iload_n X (dk D_Rf_readArguments 94 rfl) rfl ?_
            refine v_if_eq (tgt := 196) X (dk D_Rf_readArguments 95 rfl) (by decide) (fun c182 => absurd c182 (by decide)) (fun _ => ?_)
            refine v_aload_n X (dk D_Rf_readArguments 96 rfl) rfl ?_
            refine v_getI X (dk D_Rf_readArguments 97 rfl) F_Rf_72 rfl rfl (S2h.lt (by decide)) ?_
            refine v_if_ne (tgt := 196) X (dk D_Rf_readArguments 98 rfl) (by decide) (fun c189 => absurd (a2 hna).1 c189) (fun _ => ?_)
            refine v_iconst (v := 1) X (dk D_Rf_readArguments 99 rfl) (by decide) ?_
            refine v_goto (tgt := 197) X (dk D_Rf_readArguments 100 rfl) (by decide) ?_
            refine v_istore_n (lb := [some (.ref 1003), some (.int (nI (f.2.2.1 - 1))), some (.int 0), some (.int 1), some (.int b)]) X (dk D_Rf_readArguments 102 rfl) (by decide) rfl ?_
            refine v_goto (tgt := 25) X (dk D_Rf_readArguments 103 rfl) (by decide) ?_
            exact v_weak (la := [some (.ref 1003), some (.int (nI (f.2.2.1 - 1))), some (.int 0), some (.int 1), none]) ⟨rfl, rfl, rfl, rfl, trivial⟩ <| ih (sF S1' ((f.1, f.2.1 ++ [[]], f.2.2.1, false) :: r) false) (f.1, f.2.1 ++ [[]], f.2.2.1, false) w2.2.2 hfS hfuS ⟨hZ1.rs a1 (by decide) (by decide), (a2 hna).2 _ _, rfl, hok, hqn, hV1.rs a1 (by decide) (by decide), (a2 hna).1⟩ rfl hft (FO_cons ⟨by simp, (hFO f (List.mem_cons_self ..)).2.1, by have := (hFO f (List.mem_cons_self ..)).2.2; show f.2.2.1 ≤ 1 + (f.2.1 ++ [[]]).flatten.length; rw [List.flatten_append]; simp; omega⟩ (FO_tl hFO)) zz (by rw [← hX1, hus, if_neg (fun z => z rfl), rnF_f rfl])
          · have hus : usT kd tk1 S1' = (40, S1') := hu0.trans (if_neg hna)
            exact kE _ _ _ w2.2.2 zz hO (by rw [(a3 hna).1]; decide) (by rw [← hX1, hus, if_pos (by exact e40)]; exact XE_of ⟨(a3 hna).1, (a3 hna).2.1.trans hZ1.2.1.2.2.2.2.2.1, (a1.2 4 (by decide)).trans hZ1.2.1.2.2.2.2.2.2.2.1, (a1.2 28 (by decide)).trans hZ1.2.2.2.2.1.cnt.1, (a1.2 29 (by decide)).trans hZ1.2.2.2.2.1.cnt.2⟩ (by exact e40) (by exact e40b) ⟨_, hA1f.2.2.1, (a3 hna).2.2.trans hA1f.2.1⟩)
        have k107 : (b = 41 → ¬ f.2.2.1 = 1) → Vv pp l ee (rmT (d + 1) 0 0) ss mm aa bb mt cd 5 q (MQ bb (Qw q (fun v w => v = none ∧ rs g w.2.2 [2, 3, 4, 8, 9, 10, 11, 13, 15, 16, 18, 20, 21, 27, 28, 29, 32, 33, 34, 36, 37, 39, 40, 41, 42, 43, 44] [1006, 1007, 1008, 1009, 1010, 1011, 1012, 1013, 1014, 1015, 1016, 1017, 1018, 1019, 1020, 1021] ∧ AQ w.2.2 fu tk r S0)) aa ss 0 0 (fun a => q.1 ≤ a)) 107 [some (.ref 1003), some (.int (nI (f.2.2.1 - 1))), some (.int (if f.2.2.2 = true then 1 else 0)), some (.int 1), some (.int b)] [] (0, 0, w1.2.2) := by
          intro h41
          by_cases c44 : b = 44
          · by_cases c1 : f.2.2.1 = 1
            · skip
              refine v_iload X (dk D_Rf_readArguments 55 rfl) rfl ?_
              refine v_bipush (v := 44) X (dk D_Rf_readArguments 56 rfl) (by decide) ?_
              refine v_icmp_ne (tgt := 127) X (dk D_Rf_readArguments 57 rfl) (by decide) (fun c111 => absurd c44 c111) (fun _ => ?_)
              refine v_iload_n X (dk D_Rf_readArguments 58 rfl) rfl ?_
              refine v_if_ne (tgt := 127) X (dk D_Rf_readArguments 59 rfl) (by decide) (fun c115 => absurd (by rw [c1]; rfl) c115) (fun _ => ?_)
              refine v_aload_n X (dk D_Rf_readArguments 60 rfl) rfl ?_
              refine v_invV (As := []) (st := []) X (r_beginArgument l q S1 hA1f he1) (dk D_Rf_readArguments 61 rfl) G_Rf_259 K_Rf_beginArgument V_Rf_beginArgument rfl rfl (S1.lt (by decide)) rfl rfl (Nat.le_of_ble_eq_true rfl) (by dsimp only [rmT]; omega) (by dsimp only [rmT]; omega) (Nat.le_of_ble_eq_true rfl) (Nat.le_of_ble_eq_true rfl) ?_
              rintro v w2 ⟨rfl, a1, a2, a3⟩
              have zz := hs1.tr (a1.mono (by decide) (by decide))
              have S2h := zz.S hS
              show Vv _ _ _ _ _ _ _ _ _ _ _ _ _ _ _ [] (0, 0, w2.2.2)
              refine v_iconst (v := 0) X (dk D_Rf_readArguments 62 rfl) (by decide) ?_
              refine v_istore_n (lb := [some (.ref 1003), some (.int (nI (f.2.2.1 - 1))), some (.int 0), some (.int 1), some (.int b)]) X (dk D_Rf_readArguments 63 rfl) (by decide) rfl ?_
              refine v_goto (tgt := 181) X (dk D_Rf_readArguments 64 rfl) (by decide) ?_
              exact k107b c44 c1 w2 a1 a2 a3 zz S2h
            · skip
              refine v_iload X (dk D_Rf_readArguments 55 rfl) rfl ?_
              refine v_bipush (v := 44) X (dk D_Rf_readArguments 56 rfl) (by decide) ?_
              refine v_icmp_ne (tgt := 127) X (dk D_Rf_readArguments 57 rfl) (by decide) (fun c111 => absurd c44 c111) (fun _ => ?_)
              refine v_iload_n X (dk D_Rf_readArguments 58 rfl) rfl ?_
              refine v_if_ne (tgt := 127) X (dk D_Rf_readArguments 59 rfl) (by decide) (fun _ => ?_) (fun c115 => absurd c115 (fun z => c1 (hlv z)))
              exact k127 (fun _ => c1) h41
          · skip
            refine v_iload X (dk D_Rf_readArguments 55 rfl) rfl ?_
            refine v_bipush (v := 44) X (dk D_Rf_readArguments 56 rfl) (by decide) ?_
            refine v_icmp_ne (tgt := 127) X (dk D_Rf_readArguments 57 rfl) (by decide) (fun _ => ?_) (fun c111 => absurd c111 c44)
            exact k127 (fun z => absurd z c44) h41
        have k91 : Vv pp l ee (rmT (d + 1) 0 0) ss mm aa bb mt cd 5 q (MQ bb (Qw q (fun v w => v = none ∧ rs g w.2.2 [2, 3, 4, 8, 9, 10, 11, 13, 15, 16, 18, 20, 21, 27, 28, 29, 32, 33, 34, 36, 37, 39, 40, 41, 42, 43, 44] [1006, 1007, 1008, 1009, 1010, 1011, 1012, 1013, 1014, 1015, 1016, 1017, 1018, 1019, 1020, 1021] ∧ AQ w.2.2 fu tk r S0)) aa ss 0 0 (fun a => q.1 ≤ a)) 91 [some (.ref 1003), some (.int (nI (f.2.2.1 - 1))), some (.int (if f.2.2.2 = true then 1 else 0)), some (.int 1), some (.int b)] [] (0, 0, w1.2.2) := by
          by_cases c41 : b = 41
          · by_cases c1 : f.2.2.1 = 1
            · skip
              refine v_iload X (dk D_Rf_readArguments 47 rfl) rfl ?_
              refine v_bipush (v := 41) X (dk D_Rf_readArguments 48 rfl) (by decide) ?_
              refine v_icmp_ne (tgt := 107) X (dk D_Rf_readArguments 49 rfl) (by decide) (fun c95 => absurd c41 c95) (fun _ => ?_)
              refine v_iload_n X (dk D_Rf_readArguments 50 rfl) rfl ?_
              refine v_if_ne (tgt := 107) X (dk D_Rf_readArguments 51 rfl) (by decide) (fun c99 => absurd (by rw [c1]; rfl) c99) (fun _ => ?_)
              refine v_iconst (v := 0) X (dk D_Rf_readArguments 52 rfl) (by decide) ?_
              refine v_istore_n (lb := [some (.ref 1003), some (.int (nI (f.2.2.1 - 1))), some (.int (if f.2.2.2 = true then 1 else 0)), some (.int 0), some (.int b)]) X (dk D_Rf_readArguments 53 rfl) (by decide) rfl ?_
              refine v_goto (tgt := 181) X (dk D_Rf_readArguments 54 rfl) (by decide) ?_
              exact k0 _ _ _ w1.2.2 hs1 (AQ_s hO (sF S1' ((f.1, f.2.1, f.2.2.1 - 1, f.2.2.2) :: r) true) (f.1, f.2.1, f.2.2.1 - 1, f.2.2.2) (nI (S.1.2.2.2 + 1)) rfl hft hZ1 hA1f hok hqn hV1 he1 hfuS (by rw [← hX1, uiA_A (r := r) hcs1 (hbk 41 (by decide) c41).1 (hbk 41 (by decide) c41).2 c1, if_neg (fun z => z rfl)]))
            · skip
              refine v_iload X (dk D_Rf_readArguments 47 rfl) rfl ?_
              refine v_bipush (v := 41) X (dk D_Rf_readArguments 48 rfl) (by decide) ?_
              refine v_icmp_ne (tgt := 107) X (dk D_Rf_readArguments 49 rfl) (by decide) (fun c95 => absurd c41 c95) (fun _ => ?_)
              refine v_iload_n X (dk D_Rf_readArguments 50 rfl) rfl ?_
              refine v_if_ne (tgt := 107) X (dk D_Rf_readArguments 51 rfl) (by decide) (fun _ => ?_) (fun c99 => absurd c99 (fun z => c1 (hlv z)))
              exact k107 (fun _ => c1)
          · skip
            refine v_iload X (dk D_Rf_readArguments 47 rfl) rfl ?_
            refine v_bipush (v := 41) X (dk D_Rf_readArguments 48 rfl) (by decide) ?_
            refine v_icmp_ne (tgt := 107) X (dk D_Rf_readArguments 49 rfl) (by decide) (fun _ => ?_) (fun c95 => absurd c95 c41)
            exact k107 (fun z => absurd z c41)
        exact k91
      by_cases hk4 : (rdT S.2.1.1 S.2.1.2 S.1).1 = 4
      · have hTK0 : gI w1.2.2 1009 0 = (rdT S.2.1.1 S.2.1.2 S.1).2.2.2.getD 0 0 := by
          have := b6.2.1 0 (by rw [hk41 hk4]; decide)
          rw [Nat.zero_add] at this; exact this
        refine v_aload_n X (dk D_Rf_readArguments 19 rfl) rfl ?_
        refine v_getI X (dk D_Rf_readArguments 20 rfl) F_Rf_72 rfl rfl (S1.lt (by decide)) ?_
        refine v_if_ne (tgt := 53) X (dk D_Rf_readArguments 21 rfl) (by decide) (fun c37 => absurd he1 c37) (fun _ => ?_)
        refine v_aload_n X (dk D_Rf_readArguments 22 rfl) rfl ?_
        refine v_getI X (dk D_Rf_readArguments 23 rfl) F_Rf_126 rfl rfl (S1.lt (by decide)) ?_
        refine v_if_ne (tgt := 53) X (dk D_Rf_readArguments 24 rfl) (by decide) (fun _ => ?_) (fun c44 => absurd c44 (fun z => hk0 (b3.symm.trans z)))
        refine v_aload_n X (dk D_Rf_readArguments 28 rfl) rfl ?_
        refine v_getI X (dk D_Rf_readArguments 29 rfl) F_Rf_72 rfl rfl (S1.lt (by decide)) ?_
        refine v_if_ne (tgt := 81) X (dk D_Rf_readArguments 30 rfl) (by decide) (fun c57 => absurd he1 c57) (fun _ => ?_)
        refine v_aload_n X (dk D_Rf_readArguments 31 rfl) rfl ?_
        refine v_getI X (dk D_Rf_readArguments 32 rfl) F_Rf_126 rfl rfl (S1.lt (by decide)) ?_
        refine v_iconst (v := 4) X (dk D_Rf_readArguments 33 rfl) (by decide) ?_
        refine v_icmp_ne (tgt := 81) X (dk D_Rf_readArguments 34 rfl) (by decide) (fun c65 => absurd (b3.trans hk4) c65) (fun _ => ?_)
        refine v_aload_n X (dk D_Rf_readArguments 35 rfl) rfl ?_
        refine v_getF X (dk D_Rf_readArguments 36 rfl) F_Rf_27 rfl rfl (S1.lt (by decide)) (S1.2 1003 17) ?_
        refine v_iconst (v := nI 0) X (dk D_Rf_readArguments 37 rfl) (by decide) ?_
        refine v_bald X (dk D_Rf_readArguments 38 rfl) rfl (S1.lt (by decide)) (vp_in_nI (show 0 < 32768 by decide) (by decide)) ?_
        rw [nI_clamp (by decide), hTK0]
        refine v_sipush (v := 255) X (dk D_Rf_readArguments 39 rfl) (by decide) ?_
        refine v_iand X (dk D_Rf_readArguments 40 rfl) ?_
        refine v_goto (tgt := 82) X (dk D_Rf_readArguments 41 rfl) (by decide) ?_
        refine v_istore (lb := [some (.ref 1003), some (.int (nI (f.2.2.1 - 1))), some (.int (if f.2.2.2 = true then 1 else 0)), some (.int 1), some (.int ((rdT S.2.1.1 S.2.1.2 S.1).2.2.2.getD 0 0 &&& 255))]) X (dk D_Rf_readArguments 43 rfl) (by decide) rfl ?_
        refine v_aload_n X (dk D_Rf_readArguments 44 rfl) rfl ?_
        refine v_getI X (dk D_Rf_readArguments 45 rfl) F_Rf_72 rfl rfl (S1.lt (by decide)) ?_
        refine v_if_ne (tgt := 102) X (dk D_Rf_readArguments 46 rfl) (by decide) (fun c88 => absurd he1 c88) (fun _ => ?_)
        exact step (rdT S.2.1.1 S.2.1.2 S.1).1 ((rdT S.2.1.1 S.2.1.2 S.1).2.2.2.getD 0 0 &&& 255) (rdT S.2.1.1 S.2.1.2 S.1).2.2.2 _ rfl rfl rfl (fun _ => (atL_nI (by rw [hk41 hk4]; decide) (by rw [hk41 hk4]; decide)).symm) (fun z => absurd hk4 z)
      · skip
        refine v_aload_n X (dk D_Rf_readArguments 19 rfl) rfl ?_
        refine v_getI X (dk D_Rf_readArguments 20 rfl) F_Rf_72 rfl rfl (S1.lt (by decide)) ?_
        refine v_if_ne (tgt := 53) X (dk D_Rf_readArguments 21 rfl) (by decide) (fun c37 => absurd he1 c37) (fun _ => ?_)
        refine v_aload_n X (dk D_Rf_readArguments 22 rfl) rfl ?_
        refine v_getI X (dk D_Rf_readArguments 23 rfl) F_Rf_126 rfl rfl (S1.lt (by decide)) ?_
        refine v_if_ne (tgt := 53) X (dk D_Rf_readArguments 24 rfl) (by decide) (fun _ => ?_) (fun c44 => absurd c44 (fun z => hk0 (b3.symm.trans z)))
        refine v_aload_n X (dk D_Rf_readArguments 28 rfl) rfl ?_
        refine v_getI X (dk D_Rf_readArguments 29 rfl) F_Rf_72 rfl rfl (S1.lt (by decide)) ?_
        refine v_if_ne (tgt := 81) X (dk D_Rf_readArguments 30 rfl) (by decide) (fun c57 => absurd he1 c57) (fun _ => ?_)
        refine v_aload_n X (dk D_Rf_readArguments 31 rfl) rfl ?_
        refine v_getI X (dk D_Rf_readArguments 32 rfl) F_Rf_126 rfl rfl (S1.lt (by decide)) ?_
        refine v_iconst (v := 4) X (dk D_Rf_readArguments 33 rfl) (by decide) ?_
        refine v_icmp_ne (tgt := 81) X (dk D_Rf_readArguments 34 rfl) (by decide) (fun _ => ?_) (fun c65 => absurd c65 (fun z => hk4 (b3.symm.trans z)))
        refine v_iconst (v := -1) X (dk D_Rf_readArguments 42 rfl) (by decide) ?_
        refine v_istore (lb := [some (.ref 1003), some (.int (nI (f.2.2.1 - 1))), some (.int (if f.2.2.2 = true then 1 else 0)), some (.int 1), some (.int (-1))]) X (dk D_Rf_readArguments 43 rfl) (by decide) rfl ?_
        refine v_aload_n X (dk D_Rf_readArguments 44 rfl) rfl ?_
        refine v_getI X (dk D_Rf_readArguments 45 rfl) F_Rf_72 rfl rfl (S1.lt (by decide)) ?_
        refine v_if_ne (tgt := 102) X (dk D_Rf_readArguments 46 rfl) (by decide) (fun c88 => absurd he1 c88) (fun _ => ?_)
        exact step (rdT S.2.1.1 S.2.1.2 S.1).1 (-1) (rdT S.2.1.1 S.2.1.2 S.1).2.2.2 _ rfl rfl rfl (fun z => absurd z hk4) (fun _ => rfl)
  refine v_aload_n X (dk D_Rf_readArguments 0 rfl) rfl ?_
  refine v_invV (As := []) (st := []) X (r_readToken l q hS hZ0.2.1 he0 hZ0.2.2.1) (dk D_Rf_readArguments 1 rfl) G_Rf_256 K_Rf_readToken V_Rf_readToken rfl rfl (hS.lt (by decide)) rfl rfl (Nat.le_of_ble_eq_true rfl) (by dsimp only [rmT]; omega) (by dsimp only [rmT]; omega) (Nat.le_of_ble_eq_true rfl) (Nat.le_of_ble_eq_true rfl) ?_
  rintro v w1 ⟨rfl, b1, b2, b3, b4, b5, b6⟩
  rw [rdT_40 h40 hqn0.1 hqn0.2] at b2 b3 b4 b5 b6
  have hs1 := (rs.rf g [2, 3, 4, 8, 9, 10, 11, 13, 15, 16, 18, 20, 21, 27, 28, 29, 32, 33, 34, 36, 37, 39, 40, 41, 42, 43, 44] [1006, 1007, 1008, 1009, 1010, 1011, 1012, 1013, 1014, 1015, 1016, 1017, 1018, 1019, 1020, 1021]).tr (b1.mono (by decide) (by decide))
  have S1 := hs1.S hS
  have hA1 := hA0.rs b1 (by decide) (by decide) (by decide)
  show Vv _ _ _ _ _ _ _ _ _ _ _ _ _ _ _ [] (0, 0, w1.2.2)
  skip
  have hcnt := hZ0.2.2.2.2.1.cnt
  by_cases ct : tkV S0.1 < 0
  · rw [if_pos ct] at b4 b5
    have hne : ¬ gI w1.2.2 1003 2 = 0 := by rw [b4]; exact e31
    have hOv : oV tk r S0 = (31, sI (sF S0 ((tk, [], 1, false) :: r) false) (tkI S0.1)) := if_pos ct
    refine v_aload_n X (dk D_Rf_readArguments 2 rfl) rfl ?_
    refine v_invV (As := []) (st := []) X (r_beginArgumentE l q S1 hne) (dk D_Rf_readArguments 3 rfl) G_Rf_259 K_Rf_beginArgument V_Rf_beginArgument rfl rfl (S1.lt (by decide)) rfl rfl (Nat.le_of_ble_eq_true rfl) (by dsimp only [rmT]; omega) (by dsimp only [rmT]; omega) (Nat.le_of_ble_eq_true rfl) (Nat.le_of_ble_eq_true rfl) ?_
    rintro v w2 ⟨rfl, hw⟩
    rw [hw]
    show Vv _ _ _ _ _ _ _ _ _ _ _ _ _ _ _ [] (0, 0, w1.2.2)
    refine v_iconst (v := 0) X (dk D_Rf_readArguments 4 rfl) (by decide) ?_
    refine v_istore_n (lb := [some (.ref 1003), some (.int 0), none, none, none]) X (dk D_Rf_readArguments 5 rfl) (by decide) rfl ?_
    refine v_iconst (v := 0) X (dk D_Rf_readArguments 6 rfl) (by decide) ?_
    refine v_istore_n (lb := [some (.ref 1003), some (.int 0), some (.int 0), none, none]) X (dk D_Rf_readArguments 7 rfl) (by decide) rfl ?_
    refine v_aload_n X (dk D_Rf_readArguments 8 rfl) rfl ?_
    refine v_getI X (dk D_Rf_readArguments 9 rfl) F_Rf_72 rfl rfl (S1.lt (by decide)) ?_
    refine v_if_ne (tgt := 23) X (dk D_Rf_readArguments 10 rfl) (by decide) (fun _ => ?_) (fun c16 => absurd c16 hne)
    refine v_iconst (v := 0) X (dk D_Rf_readArguments 13 rfl) (by decide) ?_
    refine v_istore_n (lb := [some (.ref 1003), some (.int 0), some (.int 0), some (.int 0), none]) X (dk D_Rf_readArguments 14 rfl) (by decide) rfl ?_
    exact fin _ _ w1.2.2 hs1 ⟨fun z => absurd z hne, fun _ tl => by rw [oRr, hOv, if_pos (by exact e31)]; exact XE_of ⟨b4, by have := b5 (by exact e31); rw [if_neg (by exact e31b)] at this; exact this, b2.2.2.2.2.2.2.2.1, (b1.2 28 (by decide)).trans hcnt.1, (b1.2 29 (by decide)).trans hcnt.2⟩ (by exact e31) (by exact e31b) ⟨_, hA1.2.2.1, hA1.2.1⟩⟩
  rw [if_neg ct] at b4
  have he1 : gI w1.2.2 1003 2 = 0 := b4
  have hZ1 : RZ w1.2.2 fu (sI S0 (tkI S0.1)) := ⟨S1, b2, hZ0.2.2.1.rs b1 (by decide) (by decide) (by decide) (by decide), hZ0.2.2.2.1, hZ0.2.2.2.2.1.rs b1 (by decide) (by decide), hZ0.2.2.2.2.2.rs b1 (by decide) (by decide) (by decide) (by decide)⟩
  by_cases cn : na r < 8192
  · have hOv : oV tk r S0 = (0, sI (sF S0 ((tk, [[]], 1, false) :: r) false) (tkI S0.1)) := (if_neg ct).trans (if_pos cn)
    have hna : na ((tk, [], 1, false) :: r) < 8192 := cn
    refine v_aload_n X (dk D_Rf_readArguments 2 rfl) rfl ?_
    refine v_invV (As := []) (st := []) X (r_beginArgument l q S1 hA1 he1) (dk D_Rf_readArguments 3 rfl) G_Rf_259 K_Rf_beginArgument V_Rf_beginArgument rfl rfl (S1.lt (by decide)) rfl rfl (Nat.le_of_ble_eq_true rfl) (by dsimp only [rmT]; omega) (by dsimp only [rmT]; omega) (Nat.le_of_ble_eq_true rfl) (Nat.le_of_ble_eq_true rfl) ?_
    rintro v w2 ⟨rfl, a1, a2, a3⟩
    have zz := hs1.tr (a1.mono (by decide) (by decide))
    have S2h := zz.S hS
    show Vv _ _ _ _ _ _ _ _ _ _ _ _ _ _ _ [] (0, 0, w2.2.2)
    refine v_iconst (v := nI (1 - 1)) X (dk D_Rf_readArguments 4 rfl) (by decide) ?_
    refine v_istore_n (lb := [some (.ref 1003), some (.int (nI (1 - 1))), none, none, none]) X (dk D_Rf_readArguments 5 rfl) (by decide) rfl ?_
    refine v_iconst (v := 0) X (dk D_Rf_readArguments 6 rfl) (by decide) ?_
    refine v_istore_n (lb := [some (.ref 1003), some (.int (nI (1 - 1))), some (.int 0), none, none]) X (dk D_Rf_readArguments 7 rfl) (by decide) rfl ?_
    refine v_aload_n X (dk D_Rf_readArguments 8 rfl) rfl ?_
    refine v_getI X (dk D_Rf_readArguments 9 rfl) F_Rf_72 rfl rfl (S2h.lt (by decide)) ?_
    refine v_if_ne (tgt := 23) X (dk D_Rf_readArguments 10 rfl) (by decide) (fun c16 => absurd (a2 hna).1 c16) (fun _ => ?_)
    refine v_iconst (v := 1) X (dk D_Rf_readArguments 11 rfl) (by decide) ?_
    refine v_goto (tgt := 24) X (dk D_Rf_readArguments 12 rfl) (by decide) ?_
    refine v_istore_n (lb := [some (.ref 1003), some (.int (nI (1 - 1))), some (.int 0), some (.int 1), none]) X (dk D_Rf_readArguments 14 rfl) (by decide) rfl ?_
    exact loop (by rw [hOv]) (by rw [hOv]; exact (tkI_fl S0.1).1) (S0.1.2.2.1 + 1) (sI (sF S0 ((tk, [[]], 1, false) :: r) false) (tkI S0.1)) (tk, [[]], 1, false) w2.2.2 (Nat.lt_succ_of_le (tkI_fl S0.1).1) (tkI_fl S0.1).1 ⟨hZ1.rs a1 (by decide) (by decide), (a2 hna).2 _ _, rfl, hok0, hqn0, (hV0.rs b1 (by decide) (by decide)).rs a1 (by decide) (by decide), (a2 hna).1⟩ rfl rfl (FO_cons ⟨by simp, Nat.zero_lt_one, by simp⟩ hFO0) zz (by rw [hOv])
  · have hOv : oV tk r S0 = (40, sI (sF S0 ((tk, [], 1, false) :: r) false) (tkI S0.1)) := (if_neg ct).trans (if_neg cn)
    have hna : ¬ na ((tk, [], 1, false) :: r) < 8192 := cn
    refine v_aload_n X (dk D_Rf_readArguments 2 rfl) rfl ?_
    refine v_invV (As := []) (st := []) X (r_beginArgument l q S1 hA1 he1) (dk D_Rf_readArguments 3 rfl) G_Rf_259 K_Rf_beginArgument V_Rf_beginArgument rfl rfl (S1.lt (by decide)) rfl rfl (Nat.le_of_ble_eq_true rfl) (by dsimp only [rmT]; omega) (by dsimp only [rmT]; omega) (Nat.le_of_ble_eq_true rfl) (Nat.le_of_ble_eq_true rfl) ?_
    rintro v w2 ⟨rfl, a1, a2, a3⟩
    have zz := hs1.tr (a1.mono (by decide) (by decide))
    have S2h := zz.S hS
    show Vv _ _ _ _ _ _ _ _ _ _ _ _ _ _ _ [] (0, 0, w2.2.2)
    refine v_iconst (v := 0) X (dk D_Rf_readArguments 4 rfl) (by decide) ?_
    refine v_istore_n (lb := [some (.ref 1003), some (.int 0), none, none, none]) X (dk D_Rf_readArguments 5 rfl) (by decide) rfl ?_
    refine v_iconst (v := 0) X (dk D_Rf_readArguments 6 rfl) (by decide) ?_
    refine v_istore_n (lb := [some (.ref 1003), some (.int 0), some (.int 0), none, none]) X (dk D_Rf_readArguments 7 rfl) (by decide) rfl ?_
    refine v_aload_n X (dk D_Rf_readArguments 8 rfl) rfl ?_
    refine v_getI X (dk D_Rf_readArguments 9 rfl) F_Rf_72 rfl rfl (S2h.lt (by decide)) ?_
    refine v_if_ne (tgt := 23) X (dk D_Rf_readArguments 10 rfl) (by decide) (fun _ => ?_) (fun c16 => absurd c16 (by rw [(a3 hna).1]; decide))
    refine v_iconst (v := 0) X (dk D_Rf_readArguments 13 rfl) (by decide) ?_
    refine v_istore_n (lb := [some (.ref 1003), some (.int 0), some (.int 0), some (.int 0), none]) X (dk D_Rf_readArguments 14 rfl) (by decide) rfl ?_
    exact fin _ _ w2.2.2 zz ⟨fun z => by rw [(a3 hna).1] at z; exact absurd z (by decide), fun _ tl => by rw [oRr, hOv, if_pos (by exact e40)]; exact XE_of ⟨(a3 hna).1, (a3 hna).2.1.trans b2.2.2.2.2.2.1, (a1.2 4 (by decide)).trans b2.2.2.2.2.2.2.2.1, (a1.2 28 (by decide)).trans hZ1.2.2.2.2.1.cnt.1, (a1.2 29 (by decide)).trans hZ1.2.2.2.2.1.cnt.2⟩ (by exact e40) (by exact e40b) ⟨_, hA1.2.2.1, (a3 hna).2.2.trans hA1.2.1⟩⟩
