/-! Calls: the open calls, the innermost one first -/
/-- an open call: its name, its arguments, how deep in ( ), whether a token came for the last argument -/
abbrev Fr : Type := List Int32 × List (List Int32) × Nat × Bool
def hl : List Fr → List Int32
  | [] => []
  | f :: r => hl r ++ (f.1 ++ f.2.1.flatten)
def na : List Fr → Nat
  | [] => 0
  | f :: r => na r + f.2.1.length
def frOK (g : mu_T) : List Fr → Prop
  | [] => True
  | f :: r => gI g 21 r.length = nI (hl r).length ∧ gI g 22 r.length = nI (na r) ∧ gI g 23 r.length = nI f.2.2.1 ∧ (f.2.1 ≠ [] → gI g 24 r.length = if f.2.2.2 = true then 1 else 0) ∧ (∀ j, j < f.2.1.length → gI g 20 (na r + j) = nI ((hl r).length + f.1.length + (f.2.1.take j).flatten.length)) ∧ f.2.2.1 < 1073741824 ∧ frOK g r
def CA (g : mu_T) (fs : List Fr) (cm : Bool) : Prop := RB g 18 19 16384 (hl fs) false ∧ gI g 17 1 = nI fs.length ∧ fs.length ≤ 50 ∧ gI g 17 2 = (if cm = true then 1 else 0) ∧ gI g 17 4 = nI (na fs) ∧ na fs ≤ 8192 ∧ frOK g fs
/-- the cells of the calls -/
def CS : List Nat := [17, 18, 19, 20, 21, 22, 23, 24]
theorem frOK.sm {g k : mu_T} {S : List Nat} (z : sm g k S) (h20 : 20 ∉ S) (h21 : 21 ∉ S) (h22 : 22 ∉ S) (h23 : 23 ∉ S) (h24 : 24 ∉ S) : ∀ {fs : List Fr}, frOK g fs → frOK k fs
  | [], _ => trivial
  | f :: r, ⟨a, b, c, d, e, n, x⟩ => ⟨by rw [z.I h21]; exact a, by rw [z.I h22]; exact b, by rw [z.I h23]; exact c, fun hn => by rw [z.I h24]; exact d hn, fun j hj => by rw [z.I h20]; exact e j hj, n, frOK.sm z h20 h21 h22 h23 h24 x⟩
theorem CA.sm {g k : mu_T} {S : List Nat} {fs : List Fr} {cm : Bool} (h : CA g fs cm) (z : sm g k S) (hS : ∀ a ∈ CS, a ∉ S) : CA k fs cm := by
  obtain ⟨a, b, c, d, e, f, x⟩ := h
  have j17 := hS 17 (by decide)
  exact ⟨a.sm z (hS 18 (by decide)) (hS 19 (by decide)), by rw [z.I j17]; exact b, c, by rw [z.I j17]; exact d, by rw [z.I j17]; exact e, f, x.sm z (hS 20 (by decide)) (hS 21 (by decide)) (hS 22 (by decide)) (hS 23 (by decide)) (hS 24 (by decide))⟩
set_option maxHeartbeats 4000000 in
set_option maxRecDepth 100000 in
theorem k_hasTop (l : Launch) (q : ev_T) {fs : List Fr} {cm : Bool} {g : mu_T} (hS : Shp g) (hC : CA g fs cm) : Ctr l q M_Ca_hasTop 0 [.ref 17] (0, 0, g) (fun v w => v = some (.int (if fs = [] then 0 else 1)) ∧ w.2.2 = g) := by
  have hop := hC.2.1
  have h50 := hC.2.2.1
  refine Ctr.mk (lb := [some (.ref 17)]) (by decide +kernel) (Nat.le_of_ble_eq_true rfl) rfl rfl ?_
  intro pp ee ss mm aa bb mt cd X hrt hlk hnm
  refine v_aload_n X (dk D_Ca_hasTop 0 rfl) rfl ?_
  refine v_getI X (dk D_Ca_hasTop 1 rfl) F_Ca_40 rfl rfl (hS.lt (by decide)) ?_
  refine v_if_le (tgt := 20) X (dk D_Ca_hasTop 2 rfl) (by decide) (fun c4 => ?_) (fun c4 => ?_)
  · refine v_iconst (v := 0) X (dk D_Ca_hasTop 9 rfl) (by decide) ?_
    exact v_zret X hlk hrt rfl (dk D_Ca_hasTop 10 rfl) ⟨by rw [hop] at c4; rw [if_pos (by cases fs; rfl; exact absurd c4 (nI_nle (Nat.succ_pos _) (by omega)))], rfl⟩
  · refine v_aload_n X (dk D_Ca_hasTop 3 rfl) rfl ?_
    refine v_getI X (dk D_Ca_hasTop 4 rfl) F_Ca_40 rfl rfl (hS.lt (by decide)) ?_
    refine v_bipush (v := 50) X (dk D_Ca_hasTop 5 rfl) (by decide) ?_
    refine v_icmp_gt (tgt := 20) X (dk D_Ca_hasTop 6 rfl) (by decide) (fun c13 => ?_) (fun c13 => ?_)
    · refine v_iconst (v := 0) X (dk D_Ca_hasTop 9 rfl) (by decide) ?_
      exact v_zret X hlk hrt rfl (dk D_Ca_hasTop 10 rfl) ⟨by rw [hop] at c13; exact absurd c13 (nI_nlt (a := 50) (by omega) (by decide)), rfl⟩
    · refine v_iconst (v := 1) X (dk D_Ca_hasTop 7 rfl) (by decide) ?_
      refine v_goto (tgt := 21) X (dk D_Ca_hasTop 8 rfl) (by decide) ?_
      exact v_zret X hlk hrt rfl (dk D_Ca_hasTop 10 rfl) ⟨by rw [hop] at c4; rw [if_neg (by intro e; rw [e] at c4; exact c4 (by decide))], rfl⟩
set_option maxHeartbeats 4000000 in
set_option maxRecDepth 100000 in
theorem k_hasToken (l : Launch) (q : ev_T) {f : Fr} {r : List Fr} {cm : Bool} {g : mu_T} (hS : Shp g) (hC : CA g (f :: r) cm) (hne : f.2.1 ≠ []) : Ctr l q M_Ca_hasToken 1 [.ref 17] (0, 0, g) (fun v w => v = some (.int (if f.2.2.2 = true then 1 else 0)) ∧ w.2.2 = g) := by
  have hop : gI g 17 1 = nI (r.length + 1) := hC.2.1
  have h50 : r.length + 1 ≤ 50 := hC.2.2.1
  obtain ⟨o1, o2, o3, o4, o5, o6, o7⟩ := hC.2.2.2.2.2.2
  have har : gI g 17 4 = nI (na r + f.2.1.length) := hC.2.2.2.2.1
  have hna : na r + f.2.1.length ≤ 8192 := hC.2.2.2.2.2.1
  refine Ctr.mk (lb := [some (.ref 17)]) (by decide +kernel) (Nat.le_of_ble_eq_true rfl) rfl rfl ?_
  intro pp ee ss mm aa bb mt cd X hrt hlk hnm
  refine v_aload_n X (dk D_Ca_hasToken 0 rfl) rfl ?_
  refine v_invV (As := []) (st := []) X (k_hasTop l q hS hC) (dk D_Ca_hasToken 1 rfl) G_Ca_62 K_Ca_hasTop V_Ca_hasTop rfl rfl (hS.lt (by decide)) rfl rfl (Nat.le_of_ble_eq_true rfl) (Nat.le_of_ble_eq_true rfl) (Nat.le_of_ble_eq_true rfl) (Nat.le_of_ble_eq_true rfl) (Nat.le_of_ble_eq_true rfl) ?_
  rintro v w ⟨rfl, hw⟩
  rw [hw, if_neg (List.cons_ne_nil _ _)]
  show Vv _ _ _ _ _ _ _ _ _ _ _ _ _ _ _ (.int 1 :: []) (0, 0, g)
  refine v_if_eq (tgt := 25) X (dk D_Ca_hasToken 2 rfl) (by decide) (fun c4 => absurd c4 (by decide)) (fun _ => ?_)
  refine v_aload_n X (dk D_Ca_hasToken 3 rfl) rfl ?_
  refine v_getF X (dk D_Ca_hasToken 4 rfl) F_Ca_33 rfl rfl (hS.lt (by decide)) (hS.2 17 8) ?_
  refine v_aload_n X (dk D_Ca_hasToken 5 rfl) rfl ?_
  refine v_getI X (dk D_Ca_hasToken 6 rfl) F_Ca_40 rfl rfl (hS.lt (by decide)) ?_
  refine v_iconst (v := 1) X (dk D_Ca_hasToken 7 rfl) (by decide) ?_
  refine v_isub X (dk D_Ca_hasToken 8 rfl) ?_
  rw [hop, show nI (r.length + 1) - 1 = nI r.length from pk_sub (b := 1) (by omega)]
  refine v_zald X (dk D_Ca_hasToken 9 rfl) rfl (hS.lt (by decide)) (vp_in_nI (show r.length < 50 by omega) (by decide)) ?_
  refine v_if_eq (tgt := 25) X (dk D_Ca_hasToken 10 rfl) (by decide) (fun c18 => ?_) (fun c18 => ?_)
  · refine v_iconst (v := 0) X (dk D_Ca_hasToken 13 rfl) (by decide) ?_
    exact v_zret X hlk hrt rfl (dk D_Ca_hasToken 14 rfl) ⟨by rw [nI_clamp (by omega), o4 hne] at c18; cases hb : f.2.2.2; rfl; rw [hb] at c18; exact absurd c18 (by decide), rfl⟩
  · refine v_iconst (v := 1) X (dk D_Ca_hasToken 11 rfl) (by decide) ?_
    refine v_goto (tgt := 26) X (dk D_Ca_hasToken 12 rfl) (by decide) ?_
    exact v_zret X hlk hrt rfl (dk D_Ca_hasToken 14 rfl) ⟨by rw [nI_clamp (by omega), o4 hne] at c18; cases hb : f.2.2.2; rw [hb] at c18; exact absurd rfl c18; rfl, rfl⟩
set_option maxHeartbeats 4000000 in
set_option maxRecDepth 100000 in
theorem k_isOutermost (l : Launch) (q : ev_T) {f : Fr} {r : List Fr} {cm : Bool} {g : mu_T} (hS : Shp g) (hC : CA g (f :: r) cm) : Ctr l q M_Ca_isOutermost 1 [.ref 17] (0, 0, g) (fun v w => v = some (.int (if f.2.2.1 = 1 then 1 else 0)) ∧ w.2.2 = g) := by
  have hop : gI g 17 1 = nI (r.length + 1) := hC.2.1
  have h50 : r.length + 1 ≤ 50 := hC.2.2.1
  obtain ⟨o1, o2, o3, o4, o5, o6, o7⟩ := hC.2.2.2.2.2.2
  have har : gI g 17 4 = nI (na r + f.2.1.length) := hC.2.2.2.2.1
  have hna : na r + f.2.1.length ≤ 8192 := hC.2.2.2.2.2.1
  refine Ctr.mk (lb := [some (.ref 17)]) (by decide +kernel) (Nat.le_of_ble_eq_true rfl) rfl rfl ?_
  intro pp ee ss mm aa bb mt cd X hrt hlk hnm
  refine v_aload_n X (dk D_Ca_isOutermost 0 rfl) rfl ?_
  refine v_invV (As := []) (st := []) X (k_hasTop l q hS hC) (dk D_Ca_isOutermost 1 rfl) G_Ca_62 K_Ca_hasTop V_Ca_hasTop rfl rfl (hS.lt (by decide)) rfl rfl (Nat.le_of_ble_eq_true rfl) (Nat.le_of_ble_eq_true rfl) (Nat.le_of_ble_eq_true rfl) (Nat.le_of_ble_eq_true rfl) (Nat.le_of_ble_eq_true rfl) ?_
  rintro v w ⟨rfl, hw⟩
  rw [hw, if_neg (List.cons_ne_nil _ _)]
  show Vv _ _ _ _ _ _ _ _ _ _ _ _ _ _ _ (.int 1 :: []) (0, 0, g)
  refine v_if_eq (tgt := 26) X (dk D_Ca_isOutermost 2 rfl) (by decide) (fun c4 => absurd c4 (by decide)) (fun _ => ?_)
  refine v_aload_n X (dk D_Ca_isOutermost 3 rfl) rfl ?_
  refine v_getF X (dk D_Ca_isOutermost 4 rfl) F_Ca_30 rfl rfl (hS.lt (by decide)) (hS.2 17 7) ?_
  refine v_aload_n X (dk D_Ca_isOutermost 5 rfl) rfl ?_
  refine v_getI X (dk D_Ca_isOutermost 6 rfl) F_Ca_40 rfl rfl (hS.lt (by decide)) ?_
  refine v_iconst (v := 1) X (dk D_Ca_isOutermost 7 rfl) (by decide) ?_
  refine v_isub X (dk D_Ca_isOutermost 8 rfl) ?_
  rw [hop, show nI (r.length + 1) - 1 = nI r.length from pk_sub (b := 1) (by omega)]
  refine v_iald X (dk D_Ca_isOutermost 9 rfl) rfl (hS.lt (by decide)) (vp_in_nI (show r.length < 50 by omega) (by decide)) ?_
  refine v_iconst (v := 1) X (dk D_Ca_isOutermost 10 rfl) (by decide) ?_
  refine v_icmp_ne (tgt := 26) X (dk D_Ca_isOutermost 11 rfl) (by decide) (fun c19 => ?_) (fun c19 => ?_)
  · refine v_iconst (v := 0) X (dk D_Ca_isOutermost 14 rfl) (by decide) ?_
    exact v_zret X hlk hrt rfl (dk D_Ca_isOutermost 15 rfl) ⟨by rw [nI_clamp (by omega), o3] at c19; rw [if_neg (fun e => c19 (by rw [e]; rfl))], rfl⟩
  · refine v_iconst (v := 1) X (dk D_Ca_isOutermost 12 rfl) (by decide) ?_
    refine v_goto (tgt := 27) X (dk D_Ca_isOutermost 13 rfl) (by decide) ?_
    exact v_zret X hlk hrt rfl (dk D_Ca_isOutermost 15 rfl) ⟨by rw [nI_clamp (by omega), o3] at c19; rw [if_pos ((nI_eq (b := 1) (by omega) (by decide)).mp c19)], rfl⟩
set_option maxHeartbeats 4000000 in
set_option maxRecDepth 100000 in
theorem k_arguments (l : Launch) (q : ev_T) {f : Fr} {r : List Fr} {cm : Bool} {g : mu_T} (hS : Shp g) (hC : CA g (f :: r) cm) : Ctr l q M_Ca_arguments 1 [.ref 17] (0, 0, g) (fun v w => v = some (.int (nI f.2.1.length)) ∧ w.2.2 = g) := by
  have hop : gI g 17 1 = nI (r.length + 1) := hC.2.1
  have h50 : r.length + 1 ≤ 50 := hC.2.2.1
  obtain ⟨o1, o2, o3, o4, o5, o6, o7⟩ := hC.2.2.2.2.2.2
  have har : gI g 17 4 = nI (na r + f.2.1.length) := hC.2.2.2.2.1
  have hna : na r + f.2.1.length ≤ 8192 := hC.2.2.2.2.2.1
  refine Ctr.mk (lb := [some (.ref 17)]) (by decide +kernel) (Nat.le_of_ble_eq_true rfl) rfl rfl ?_
  intro pp ee ss mm aa bb mt cd X hrt hlk hnm
  refine v_aload_n X (dk D_Ca_arguments 0 rfl) rfl ?_
  refine v_invV (As := []) (st := []) X (k_hasTop l q hS hC) (dk D_Ca_arguments 1 rfl) G_Ca_62 K_Ca_hasTop V_Ca_hasTop rfl rfl (hS.lt (by decide)) rfl rfl (Nat.le_of_ble_eq_true rfl) (Nat.le_of_ble_eq_true rfl) (Nat.le_of_ble_eq_true rfl) (Nat.le_of_ble_eq_true rfl) (Nat.le_of_ble_eq_true rfl) ?_
  rintro v w ⟨rfl, hw⟩
  rw [hw, if_neg (List.cons_ne_nil _ _)]
  show Vv _ _ _ _ _ _ _ _ _ _ _ _ _ _ _ (.int 1 :: []) (0, 0, g)
  refine v_if_eq (tgt := 26) X (dk D_Ca_arguments 2 rfl) (by decide) (fun c4 => absurd c4 (by decide)) (fun _ => ?_)
  refine v_aload_n X (dk D_Ca_arguments 3 rfl) rfl ?_
  refine v_getI X (dk D_Ca_arguments 4 rfl) F_Ca_48 rfl rfl (hS.lt (by decide)) ?_
  refine v_aload_n X (dk D_Ca_arguments 5 rfl) rfl ?_
  refine v_getF X (dk D_Ca_arguments 6 rfl) F_Ca_27 rfl rfl (hS.lt (by decide)) (hS.2 17 6) ?_
  refine v_aload_n X (dk D_Ca_arguments 7 rfl) rfl ?_
  refine v_getI X (dk D_Ca_arguments 8 rfl) F_Ca_40 rfl rfl (hS.lt (by decide)) ?_
  refine v_iconst (v := 1) X (dk D_Ca_arguments 9 rfl) (by decide) ?_
  refine v_isub X (dk D_Ca_arguments 10 rfl) ?_
  rw [hop, show nI (r.length + 1) - 1 = nI r.length from pk_sub (b := 1) (by omega)]
  refine v_iald X (dk D_Ca_arguments 11 rfl) rfl (hS.lt (by decide)) (vp_in_nI (show r.length < 50 by omega) (by decide)) ?_
  refine v_isub X (dk D_Ca_arguments 12 rfl) ?_
  refine v_goto (tgt := 27) X (dk D_Ca_arguments 13 rfl) (by decide) ?_
  exact v_iret X hlk hrt (dk D_Ca_arguments 15 rfl) ⟨by rw [har, nI_clamp (by omega), o2, pk_sub (by omega), Nat.add_sub_cancel_left], rfl⟩
set_option maxHeartbeats 4000000 in
set_option maxRecDepth 100000 in
theorem k_nameStart (l : Launch) (q : ev_T) {f : Fr} {r : List Fr} {cm : Bool} {g : mu_T} (hS : Shp g) (hC : CA g (f :: r) cm) : Ctr l q M_Ca_nameStart 1 [.ref 17] (0, 0, g) (fun v w => v = some (.int (nI (hl r).length)) ∧ w.2.2 = g) := by
  have hop : gI g 17 1 = nI (r.length + 1) := hC.2.1
  have h50 : r.length + 1 ≤ 50 := hC.2.2.1
  obtain ⟨o1, o2, o3, o4, o5, o6, o7⟩ := hC.2.2.2.2.2.2
  have har : gI g 17 4 = nI (na r + f.2.1.length) := hC.2.2.2.2.1
  have hna : na r + f.2.1.length ≤ 8192 := hC.2.2.2.2.2.1
  refine Ctr.mk (lb := [some (.ref 17)]) (by decide +kernel) (Nat.le_of_ble_eq_true rfl) rfl rfl ?_
  intro pp ee ss mm aa bb mt cd X hrt hlk hnm
  refine v_aload_n X (dk D_Ca_nameStart 0 rfl) rfl ?_
  refine v_invV (As := []) (st := []) X (k_hasTop l q hS hC) (dk D_Ca_nameStart 1 rfl) G_Ca_62 K_Ca_hasTop V_Ca_hasTop rfl rfl (hS.lt (by decide)) rfl rfl (Nat.le_of_ble_eq_true rfl) (Nat.le_of_ble_eq_true rfl) (Nat.le_of_ble_eq_true rfl) (Nat.le_of_ble_eq_true rfl) (Nat.le_of_ble_eq_true rfl) ?_
  rintro v w ⟨rfl, hw⟩
  rw [hw, if_neg (List.cons_ne_nil _ _)]
  show Vv _ _ _ _ _ _ _ _ _ _ _ _ _ _ _ (.int 1 :: []) (0, 0, g)
  refine v_if_eq (tgt := 21) X (dk D_Ca_nameStart 2 rfl) (by decide) (fun c4 => absurd c4 (by decide)) (fun _ => ?_)
  refine v_aload_n X (dk D_Ca_nameStart 3 rfl) rfl ?_
  refine v_getF X (dk D_Ca_nameStart 4 rfl) F_Ca_24 rfl rfl (hS.lt (by decide)) (hS.2 17 5) ?_
  refine v_aload_n X (dk D_Ca_nameStart 5 rfl) rfl ?_
  refine v_getI X (dk D_Ca_nameStart 6 rfl) F_Ca_40 rfl rfl (hS.lt (by decide)) ?_
  refine v_iconst (v := 1) X (dk D_Ca_nameStart 7 rfl) (by decide) ?_
  refine v_isub X (dk D_Ca_nameStart 8 rfl) ?_
  rw [hop, show nI (r.length + 1) - 1 = nI r.length from pk_sub (b := 1) (by omega)]
  refine v_iald X (dk D_Ca_nameStart 9 rfl) rfl (hS.lt (by decide)) (vp_in_nI (show r.length < 50 by omega) (by decide)) ?_
  refine v_goto (tgt := 22) X (dk D_Ca_nameStart 10 rfl) (by decide) ?_
  exact v_iret X hlk hrt (dk D_Ca_nameStart 12 rfl) ⟨by rw [nI_clamp (by omega), o1], rfl⟩
/-- where argument i of the innermost call begins -/
def stA (f : Fr) (r : List Fr) (i : Nat) : Nat := (hl r).length + f.1.length + (f.2.1.take i).flatten.length
theorem stA_end {f : Fr} {r : List Fr} {i : Nat} (h : f.2.1.length ≤ i) : stA f r i = (hl (f :: r)).length := by
  rw [stA, List.take_of_length_le h, hl, List.length_append, List.length_append]; omega
theorem stA_le {f : Fr} {r : List Fr} (i : Nat) : stA f r i ≤ (hl (f :: r)).length := by
  rw [stA, hl, List.length_append, List.length_append]
  have : (f.2.1.take i).flatten.length ≤ f.2.1.flatten.length := by
    have e : f.2.1.flatten = (f.2.1.take i).flatten ++ (f.2.1.drop i).flatten := by rw [← List.flatten_append, List.take_append_drop]
    rw [e, List.length_append]; omega
  omega
theorem stA_succ {f : Fr} {r : List Fr} {i : Nat} : stA f r (i + 1) = stA f r i + (f.2.1.getD i []).length := by
  rcases Nat.lt_or_ge i f.2.1.length with h | h
  · rw [stA, stA, List.take_add_one, List.flatten_append, List.length_append, List.getD_eq_getElem?_getD, List.getElem?_eq_getElem h]
    simp; omega
  · rw [stA_end (by omega), stA_end h, List.getD_eq_getElem?_getD, List.getElem?_eq_none h]; simp
theorem hl_slice {f : Fr} {r : List Fr} (i : Nat) : ((hl (f :: r)).drop (stA f r i)).take (f.2.1.getD i []).length = f.2.1.getD i [] := by
  rcases Nat.lt_or_ge i f.2.1.length with h | h
  · have e : f.2.1 = f.2.1.take i ++ (f.2.1.getD i [] :: f.2.1.drop (i + 1)) := by
      rw [List.getD_eq_getElem?_getD, List.getElem?_eq_getElem h, Option.getD_some, List.getElem_cons_drop, List.take_append_drop]
    have e2 : hl (f :: r) = (hl r ++ f.1 ++ (f.2.1.take i).flatten) ++ (f.2.1.getD i [] ++ (f.2.1.drop (i + 1)).flatten) := by
      rw [hl]
      conv => lhs; rw [e]
      simp [List.flatten_append]
    rw [e2, List.drop_append_of_le_length (by simp [stA]; omega)]
    rw [List.drop_of_length_le (by simp [stA]; omega), List.nil_append, List.take_append_of_le_length (Nat.le_refl _), List.take_length]
  · rw [List.getD_eq_getElem?_getD, List.getElem?_eq_none h]; simp
set_option maxHeartbeats 4000000 in
set_option maxRecDepth 100000 in
theorem k_start (l : Launch) (q : ev_T) {f : Fr} {r : List Fr} {cm : Bool} {i : Nat} {g : mu_T} (hS : Shp g) (hC : CA g (f :: r) cm) (hi : i < 1000000) : Ctr l q M_Ca_start 0 [.ref 17, .int (nI i)] (0, 0, g) (fun v w => v = some (.int (nI (stA f r i))) ∧ w.2.2 = g) := by
  have hop : gI g 17 1 = nI (r.length + 1) := hC.2.1
  have h50 : r.length + 1 ≤ 50 := hC.2.2.1
  obtain ⟨o1, o2, o3, o4, o5, o6, o7⟩ := hC.2.2.2.2.2.2
  have har : gI g 17 4 = nI (na r + f.2.1.length) := hC.2.2.2.2.1
  have hna : na r + f.2.1.length ≤ 8192 := hC.2.2.2.2.2.1
  refine Ctr.mk (lb := [some (.ref 17), some (.int (nI i)), none]) (by decide +kernel) (Nat.le_of_ble_eq_true rfl) rfl rfl ?_
  intro pp ee ss mm aa bb mt cd X hrt hlk hnm
  refine v_iload_n X (dk D_Ca_start 0 rfl) rfl ?_
  refine v_if_lt (tgt := 21) X (dk D_Ca_start 1 rfl) (by decide) (fun c1 => absurd c1 (nI_pos (by omega))) (fun _ => ?_)
  refine v_aload_n X (dk D_Ca_start 2 rfl) rfl ?_
  refine v_getI X (dk D_Ca_start 3 rfl) F_Ca_40 rfl rfl (hS.lt (by decide)) ?_
  refine v_iconst (v := 1) X (dk D_Ca_start 4 rfl) (by decide) ?_
  refine v_icmp_lt (tgt := 21) X (dk D_Ca_start 5 rfl) (by decide) (fun c9 => absurd c9 (by rw [hop]; exact nI_nlt (b := 1) (by omega) (by omega))) (fun _ => ?_)
  refine v_aload_n X (dk D_Ca_start 6 rfl) rfl ?_
  refine v_getI X (dk D_Ca_start 7 rfl) F_Ca_40 rfl rfl (hS.lt (by decide)) ?_
  refine v_bipush (v := 50) X (dk D_Ca_start 8 rfl) (by decide) ?_
  refine v_icmp_le (tgt := 29) X (dk D_Ca_start 9 rfl) (by decide) (fun _ => ?_) (fun c18 => absurd (by rw [hop]; exact nI_le (b := 50) (by omega) (by decide)) c18)
  refine v_aload_n X (dk D_Ca_start 14 rfl) rfl ?_
  refine v_getF X (dk D_Ca_start 15 rfl) F_Ca_27 rfl rfl (hS.lt (by decide)) (hS.2 17 6) ?_
  refine v_aload_n X (dk D_Ca_start 16 rfl) rfl ?_
  refine v_getI X (dk D_Ca_start 17 rfl) F_Ca_40 rfl rfl (hS.lt (by decide)) ?_
  refine v_iconst (v := 1) X (dk D_Ca_start 18 rfl) (by decide) ?_
  refine v_isub X (dk D_Ca_start 19 rfl) ?_
  rw [hop, show nI (r.length + 1) - 1 = nI r.length from pk_sub (b := 1) (by omega)]
  refine v_iald X (dk D_Ca_start 20 rfl) rfl (hS.lt (by decide)) (vp_in_nI (show r.length < 50 by omega) (by decide)) ?_
  refine v_iload_n X (dk D_Ca_start 21 rfl) rfl ?_
  refine v_iadd X (dk D_Ca_start 22 rfl) ?_
  rw [nI_clamp (by omega), o2, nI_add]
  refine v_istore_n (lb := [some (.ref 17), some (.int (nI i)), some (.int (nI (na r + i)))]) X (dk D_Ca_start 23 rfl) (by decide) rfl ?_
  refine v_iload_n X (dk D_Ca_start 24 rfl) rfl ?_
  refine v_if_lt (tgt := 73) X (dk D_Ca_start 25 rfl) (by decide) (fun c44 => absurd c44 (nI_pos (by omega))) (fun _ => ?_)
  refine v_iload_n X (dk D_Ca_start 26 rfl) rfl ?_
  refine v_aload_n X (dk D_Ca_start 27 rfl) rfl ?_
  refine v_getI X (dk D_Ca_start 28 rfl) F_Ca_48 rfl rfl (hS.lt (by decide)) ?_
  refine v_icmp_ge (tgt := 73) X (dk D_Ca_start 29 rfl) (by decide) (fun c52 => ?_) (fun c52 => ?_)
  · refine v_aload_n X (dk D_Ca_start 40 rfl) rfl ?_
    refine v_getF X (dk D_Ca_start 41 rfl) F_Ca_14 rfl rfl (hS.lt (by decide)) (hS.2 17 0) ?_
    refine v_getI X (dk D_Ca_start 42 rfl) F_Ca_51 rfl rfl (hS.lt (by decide)) ?_
    exact v_iret X hlk hrt (dk D_Ca_start 43 rfl) ⟨by rw [hC.1.2.2.1, stA_end (by rw [har] at c52; rcases Nat.lt_or_ge (na r + i) (na r + f.2.1.length) with z | z; exact absurd c52 (nI_ge z (by omega)); omega)], rfl⟩
  · refine v_iload_n X (dk D_Ca_start 30 rfl) rfl ?_
    refine v_aload_n X (dk D_Ca_start 31 rfl) rfl ?_
    refine v_getF X (dk D_Ca_start 32 rfl) F_Ca_20 rfl rfl (hS.lt (by decide)) (hS.2 17 3) ?_
    refine v_alen (v := nI _) X (dk D_Ca_start 33 rfl) rfl rfl (hS.lt (by decide)) rfl ?_
    refine v_icmp_ge (tgt := 73) X (dk D_Ca_start 34 rfl) (by decide) (fun c61 => ?_) (fun c61 => ?_)
    · refine v_aload_n X (dk D_Ca_start 40 rfl) rfl ?_
      refine v_getF X (dk D_Ca_start 41 rfl) F_Ca_14 rfl rfl (hS.lt (by decide)) (hS.2 17 0) ?_
      refine v_getI X (dk D_Ca_start 42 rfl) F_Ca_51 rfl rfl (hS.lt (by decide)) ?_
      exact v_iret X hlk hrt (dk D_Ca_start 43 rfl) ⟨by rw [har] at c52; exact absurd (nI_le (show na r + f.2.1.length ≤ na r + i from by rcases Nat.lt_or_ge 8191 (na r + i) with z | z; omega; exact absurd c61 (nI_ge (b := 8192) (by omega) (by decide))) (by omega)) c52, rfl⟩
    · refine v_aload_n X (dk D_Ca_start 35 rfl) rfl ?_
      refine v_getF X (dk D_Ca_start 36 rfl) F_Ca_20 rfl rfl (hS.lt (by decide)) (hS.2 17 3) ?_
      refine v_iload_n X (dk D_Ca_start 37 rfl) rfl ?_
      refine v_iald X (dk D_Ca_start 38 rfl) rfl (hS.lt (by decide)) (vp_in_nI (show na r + i < 8192 by rw [har] at c52; rcases Nat.lt_or_ge (na r + i) (na r + f.2.1.length) with z | z; omega; exact absurd (nI_le z (by omega)) c52) (by decide)) ?_
      refine v_goto (tgt := 80) X (dk D_Ca_start 39 rfl) (by decide) ?_
      exact v_iret X hlk hrt (dk D_Ca_start 43 rfl) ⟨by rw [nI_clamp (by omega), o5 i (by rw [har] at c52; rcases Nat.lt_or_ge i f.2.1.length with z | z; exact z; exact absurd (nI_le (show na r + f.2.1.length ≤ na r + i by omega) (by omega)) c52)]; rfl, rfl⟩
set_option maxHeartbeats 4000000 in
set_option maxRecDepth 100000 in
theorem k_length (l : Launch) (q : ev_T) {f : Fr} {r : List Fr} {cm : Bool} {i : Nat} {g : mu_T} (hS : Shp g) (hC : CA g (f :: r) cm) (hi : i < 999999) : Ctr l q M_Ca_length 1 [.ref 17, .int (nI i)] (0, 0, g) (fun v w => v = some (.int (nI (f.2.1.getD i []).length)) ∧ w.2.2 = g) := by

  refine Ctr.mk (lb := [some (.ref 17), some (.int (nI i))]) (by decide +kernel) (Nat.le_of_ble_eq_true rfl) rfl rfl ?_
  intro pp ee ss mm aa bb mt cd X hrt hlk hnm
  refine v_aload_n X (dk D_Ca_length 0 rfl) rfl ?_
  refine v_iload_n X (dk D_Ca_length 1 rfl) rfl ?_
  refine v_iconst (v := 1) X (dk D_Ca_length 2 rfl) (by decide) ?_
  refine v_iadd X (dk D_Ca_length 3 rfl) ?_
  rw [nI_1]
  refine v_invV (As := [.int (nI (i + 1))]) (st := []) X (k_start l q (i := i + 1) hS hC (by omega)) (dk D_Ca_length 4 rfl) G_Ca_66 K_Ca_start V_Ca_start rfl rfl (hS.lt (by decide)) rfl rfl (Nat.le_of_ble_eq_true rfl) (Nat.le_of_ble_eq_true rfl) (Nat.le_of_ble_eq_true rfl) (Nat.le_of_ble_eq_true rfl) (Nat.le_of_ble_eq_true rfl) ?_
  rintro v w ⟨rfl, hw⟩
  rw [hw]
  show Vv _ _ _ _ _ _ _ _ _ _ _ _ _ _ _ [.int (nI (stA f r (i + 1)))] (0, 0, g)
  refine v_aload_n X (dk D_Ca_length 5 rfl) rfl ?_
  refine v_iload_n X (dk D_Ca_length 6 rfl) rfl ?_
  refine v_invV (As := [.int (nI i)]) (st := [.int (nI (stA f r (i + 1)))]) X (k_start l q (i := i) hS hC (by omega)) (dk D_Ca_length 7 rfl) G_Ca_66 K_Ca_start V_Ca_start rfl rfl (hS.lt (by decide)) rfl rfl (Nat.le_of_ble_eq_true rfl) (Nat.le_of_ble_eq_true rfl) (Nat.le_of_ble_eq_true rfl) (Nat.le_of_ble_eq_true rfl) (Nat.le_of_ble_eq_true rfl) ?_
  rintro v w ⟨rfl, hw⟩
  rw [hw]
  show Vv _ _ _ _ _ _ _ _ _ _ _ _ _ _ _ [.int (nI (stA f r i)), .int (nI (stA f r (i + 1)))] (0, 0, g)
  refine v_isub X (dk D_Ca_length 8 rfl) ?_
  exact v_iret X hlk hrt (dk D_Ca_length 9 rfl) ⟨by rw [stA_succ, pk_sub (by omega), Nat.add_sub_cancel_left], rfl⟩
set_option maxHeartbeats 4000000 in
set_option maxRecDepth 100000 in
theorem k_nameLength (l : Launch) (q : ev_T) {f : Fr} {r : List Fr} {cm : Bool} {g : mu_T} (hS : Shp g) (hC : CA g (f :: r) cm) : Ctr l q M_Ca_nameLength 2 [.ref 17] (0, 0, g) (fun v w => v = some (.int (nI f.1.length)) ∧ w.2.2 = g) := by

  refine Ctr.mk (lb := [some (.ref 17)]) (by decide +kernel) (Nat.le_of_ble_eq_true rfl) rfl rfl ?_
  intro pp ee ss mm aa bb mt cd X hrt hlk hnm
  refine v_aload_n X (dk D_Ca_nameLength 0 rfl) rfl ?_
  refine v_iconst (v := nI 0) X (dk D_Ca_nameLength 1 rfl) (by decide) ?_
  refine v_invV (As := [.int (nI 0)]) (st := []) X (k_start l q (i := 0) hS hC (by omega)) (dk D_Ca_nameLength 2 rfl) G_Ca_66 K_Ca_start V_Ca_start rfl rfl (hS.lt (by decide)) rfl rfl (Nat.le_of_ble_eq_true rfl) (Nat.le_of_ble_eq_true rfl) (Nat.le_of_ble_eq_true rfl) (Nat.le_of_ble_eq_true rfl) (Nat.le_of_ble_eq_true rfl) ?_
  rintro v w ⟨rfl, hw⟩
  rw [hw]
  show Vv _ _ _ _ _ _ _ _ _ _ _ _ _ _ _ [.int (nI (stA f r 0))] (0, 0, g)
  refine v_aload_n X (dk D_Ca_nameLength 3 rfl) rfl ?_
  refine v_invV (As := []) (st := [.int (nI (stA f r 0))]) X (k_nameStart l q hS hC) (dk D_Ca_nameLength 4 rfl) G_Ca_70 K_Ca_nameStart V_Ca_nameStart rfl rfl (hS.lt (by decide)) rfl rfl (Nat.le_of_ble_eq_true rfl) (Nat.le_of_ble_eq_true rfl) (Nat.le_of_ble_eq_true rfl) (Nat.le_of_ble_eq_true rfl) (Nat.le_of_ble_eq_true rfl) ?_
  rintro v w ⟨rfl, hw⟩
  rw [hw]
  show Vv _ _ _ _ _ _ _ _ _ _ _ _ _ _ _ [.int (nI (hl r).length), .int (nI (stA f r 0))] (0, 0, g)
  refine v_isub X (dk D_Ca_nameLength 5 rfl) ?_
  exact v_iret X hlk hrt (dk D_Ca_nameLength 6 rfl) ⟨by rw [pk_sub (by simp [stA])]; simp [stA], rfl⟩
