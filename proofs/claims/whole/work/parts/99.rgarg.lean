/-! the reference: arguments are given -/
abbrev kG (g w : mu_T) : Prop := rs g w [2, 3, 20] [1010]
theorem AC.kg {g w : mu_T} {f : Fr} {r : List Fr} (h : AC g f r) (z : kG g w) : AC w f r := h.rs z (by decide) (by decide) (by decide)
theorem RQ.kg {g w : mu_T} {fu : Nat} {I : Ip} (h : RQ g fu I) (z : kG g w) : RQ w fu I := h.rs z (by decide) (by decide)
theorem QT.kg {g w : mu_T} {op cl : List Int32} (h : QT g op cl) (z : kG g w) : QT w op cl := h.rs z (by decide) (by decide) (by decide) (by decide)
theorem RM.kg {g w : mu_T} {M : List Me} (h : RM g M) (z : kG g w) : RM w M := h.rs z (by decide) (by decide)
set_option maxHeartbeats 4000000 in
set_option maxRecDepth 100000 in
theorem r_giveArgument (l : Launch) (q : ev_T) {fu i : Nat} {f : Fr} {r : List Fr} {I : Ip} {F : List Int32} {g : mu_T} (hS : Shp g) (hI : RQ g fu I) (hE : GE g I F) (hC : AC g f r) (hi : i < 10000) : Ctr l q M_Rf_giveArgument 3 [.ref 1003, .int (nI (na r)), .int (nI (i + 1))] (0, 0, g) (fun v w => v = none ∧ rs g w.2.2 [2, 3, 20] [1010] ∧ GE w.2.2 I (F ++ f.2.1.getD i [])) := by
  have hle := ag_le (f := f) (r := r) i
  have h16 := hC.1.1.2.2
  have hrow := hC.1.1.arg i
  refine Ctr.mk (lb := [some (.ref 1003), some (.int (nI (na r))), some (.int (nI (i + 1))), none, none]) (by decide +kernel) (Nat.le_of_ble_eq_true rfl) rfl rfl ?_
  intro pp ee ss mm aa bb mt cd X hrt hlk hnm
  refine v_inv (fun hBB _ => ?_)
  have hbt : ∀ x ∈ (f.2.1.getD i []), x.toInt8.toInt32 = x := rw_byte hBB (r := 1018) (N := 16385) rfl hrow
  have loop : ∀ (d k : Nat) (h : mu_T), k + d = (f.2.1.getD i []).length → rs g h [2, 3, 20] [1010] → GE h I (F ++ (f.2.1.getD i []).take k) → Vv pp l ee (rmT 3 0 0) ss mm aa bb mt cd 5 q (MQ bb (Qw q (fun v w => v = none ∧ rs g w.2.2 [2, 3, 20] [1010] ∧ GE w.2.2 I (F ++ f.2.1.getD i []))) aa ss 0 0 (fun a => q.1 ≤ a)) 10 [some (.ref 1003), some (.int (nI (na r))), some (.int (nI (i + 1))), some (.int (nI (stA f r i))), some (.int (nI k))] [] (0, 0, h) := by
    intro d
    induction d with
    | zero =>
      intro k h hkd hs hh
      have hSh := hs.S hS
      refine v_iload X (dk D_Rf_giveArgument 7 rfl) rfl ?_
      refine v_aload_n X (dk D_Rf_giveArgument 8 rfl) rfl ?_
      refine v_iload_n X (dk D_Rf_giveArgument 9 rfl) rfl ?_
      refine v_iload_n X (dk D_Rf_giveArgument 10 rfl) rfl ?_
      refine v_invV (As := [.int (nI (na r)), .int (nI (i + 1))]) (st := [.int (nI k)]) X (r_argumentSize l q (i := i) hSh (hC.kg hs) (by omega)) (dk D_Rf_giveArgument 11 rfl) G_Rf_272 K_Rf_argumentSize V_Rf_argumentSize rfl rfl (hSh.lt (by decide)) rfl rfl (Nat.le_of_ble_eq_true rfl) (Nat.le_of_ble_eq_true rfl) (Nat.le_of_ble_eq_true rfl) (Nat.le_of_ble_eq_true rfl) (Nat.le_of_ble_eq_true rfl) ?_
      rintro v ws ⟨rfl, hws⟩
      rw [hws]
      show Vv _ _ _ _ _ _ _ _ _ _ _ _ _ _ _ [.int (nI (f.2.1.getD i []).length), .int (nI k)] (0, 0, h)
      refine v_icmp_ge (tgt := 40) X (dk D_Rf_giveArgument 12 rfl) (by decide) (fun _ => ?_) (fun c18 => absurd (nI_le (by omega) (by omega)) c18)
      exact v_vret X hlk hrt (dk D_Rf_giveArgument 23 rfl) ⟨rfl, hs, by rw [List.take_of_length_le (by omega)] at hh; exact hh⟩
    | succ d ih =>
      intro k h hkd hs hh
      have hSh := hs.S hS
      refine v_iload X (dk D_Rf_giveArgument 7 rfl) rfl ?_
      refine v_aload_n X (dk D_Rf_giveArgument 8 rfl) rfl ?_
      refine v_iload_n X (dk D_Rf_giveArgument 9 rfl) rfl ?_
      refine v_iload_n X (dk D_Rf_giveArgument 10 rfl) rfl ?_
      refine v_invV (As := [.int (nI (na r)), .int (nI (i + 1))]) (st := [.int (nI k)]) X (r_argumentSize l q (i := i) hSh (hC.kg hs) (by omega)) (dk D_Rf_giveArgument 11 rfl) G_Rf_272 K_Rf_argumentSize V_Rf_argumentSize rfl rfl (hSh.lt (by decide)) rfl rfl (Nat.le_of_ble_eq_true rfl) (Nat.le_of_ble_eq_true rfl) (Nat.le_of_ble_eq_true rfl) (Nat.le_of_ble_eq_true rfl) (Nat.le_of_ble_eq_true rfl) ?_
      rintro v ws ⟨rfl, hws⟩
      rw [hws]
      show Vv _ _ _ _ _ _ _ _ _ _ _ _ _ _ _ [.int (nI (f.2.1.getD i []).length), .int (nI k)] (0, 0, h)
      refine v_icmp_ge (tgt := 40) X (dk D_Rf_giveArgument 12 rfl) (by decide) (fun c18 => absurd c18 (nI_ge (by omega) (by omega))) (fun _ => ?_)
      refine v_aload_n X (dk D_Rf_giveArgument 13 rfl) rfl ?_
      refine v_aload_n X (dk D_Rf_giveArgument 14 rfl) rfl ?_
      refine v_getF X (dk D_Rf_giveArgument 15 rfl) F_Rf_56 rfl rfl (hSh.lt (by decide)) (hSh.2 1003 35) ?_
      refine v_iload_n X (dk D_Rf_giveArgument 16 rfl) rfl ?_
      refine v_iload X (dk D_Rf_giveArgument 17 rfl) rfl ?_
      refine v_iadd X (dk D_Rf_giveArgument 18 rfl) ?_
      rw [nI_add]
      refine v_bald X (dk D_Rf_giveArgument 19 rfl) rfl (hSh.lt (by decide)) (vp_in_nI (show stA f r i + k < 16385 by omega) (by decide)) ?_
      rw [nI_clamp (by omega), hs.row (by decide) (by decide), hrow k (by omega)]
      refine v_invV (As := [.int ((f.2.1.getD i []).getD k 0)]) (st := []) X (r_give l q (x := ((f.2.1.getD i []).getD k 0)) hSh (hI.kg hs) hh) (dk D_Rf_giveArgument 20 rfl) G_Rf_145 K_Rf_give V_Rf_give rfl rfl (hSh.lt (by decide)) rfl rfl (Nat.le_of_ble_eq_true rfl) (Nat.le_of_ble_eq_true rfl) (Nat.le_of_ble_eq_true rfl) (Nat.le_of_ble_eq_true rfl) (Nat.le_of_ble_eq_true rfl) ?_
      rintro v w1 ⟨rfl, a1, a2⟩
      rw [show ((f.2.1.getD i []).getD k 0).toInt8.toInt32 = ((f.2.1.getD i []).getD k 0) from hbt _ (getD_mem (by omega)), List.append_assoc, ← take_s (by omega)] at a2
      show Vv _ _ _ _ _ _ _ _ _ _ _ _ _ _ _ [] (0, 0, w1.2.2)
      refine v_iinc (v := nI (k + 1)) (lb := [some (.ref 1003), some (.int (nI (na r))), some (.int (nI (i + 1))), some (.int (nI (stA f r i))), some (.int (nI (k + 1)))]) X (dk D_Rf_giveArgument 21 rfl) rfl (nI_1 _) (by decide) rfl ?_
      refine v_goto (tgt := 10) X (dk D_Rf_giveArgument 22 rfl) (by decide) ?_
      exact ih (k + 1) w1.2.2 (by omega) (hs.tr a1) a2
  refine v_aload_n X (dk D_Rf_giveArgument 0 rfl) rfl ?_
  refine v_iload_n X (dk D_Rf_giveArgument 1 rfl) rfl ?_
  refine v_iload_n X (dk D_Rf_giveArgument 2 rfl) rfl ?_
  refine v_invV (As := [.int (nI (na r)), .int (nI (i + 1))]) (st := []) X (r_argumentAt l q (i := i) hS hC (by omega)) (dk D_Rf_giveArgument 3 rfl) G_Rf_268 K_Rf_argumentAt V_Rf_argumentAt rfl rfl (hS.lt (by decide)) rfl rfl (Nat.le_of_ble_eq_true rfl) (Nat.le_of_ble_eq_true rfl) (Nat.le_of_ble_eq_true rfl) (Nat.le_of_ble_eq_true rfl) (Nat.le_of_ble_eq_true rfl) ?_
  rintro v ws ⟨rfl, hws⟩
  rw [hws]
  show Vv _ _ _ _ _ _ _ _ _ _ _ _ _ _ _ [.int (nI (stA f r i))] (0, 0, g)
  refine v_istore_n (lb := [some (.ref 1003), some (.int (nI (na r))), some (.int (nI (i + 1))), some (.int (nI (stA f r i))), none]) X (dk D_Rf_giveArgument 4 rfl) (by decide) rfl ?_
  refine v_iconst (v := nI 0) X (dk D_Rf_giveArgument 5 rfl) (by decide) ?_
  refine v_istore (lb := [some (.ref 1003), some (.int (nI (na r))), some (.int (nI (i + 1))), some (.int (nI (stA f r i))), some (.int (nI 0))]) X (dk D_Rf_giveArgument 6 rfl) (by decide) rfl ?_
  exact loop (f.2.1.getD i []).length 0 g (by omega) (rs.rf g _ _) (by rw [List.take_zero, List.append_nil]; exact hE)
set_option maxHeartbeats 4000000 in
set_option maxRecDepth 100000 in
theorem r_giveQuoted (l : Launch) (q : ev_T) {fu i : Nat} {f : Fr} {r : List Fr} {I : Ip} {F op cl : List Int32} {g : mu_T} (hS : Shp g) (hI : RQ g fu I) (hE : GE g I F) (hC : AC g f r) (hQ : QT g op cl) (hob : ∀ x ∈ op, isByte x) (hcb : ∀ x ∈ cl, isByte x) (hi : i < 10000) : Ctr l q M_Rf_giveQuotedArgument 4 [.ref 1003, .int (nI (na r)), .int (nI (i + 1))] (0, 0, g) (fun v w => v = none ∧ rs g w.2.2 [2, 3, 20] [1010] ∧ GE w.2.2 I (F ++ qtd true op cl (f.2.1.getD i []))) := by
  have ho4 := hQ.2.2.2.1
  have hc4 := hQ.2.2.2.2.2.1
  refine Ctr.mk (lb := [some (.ref 1003), some (.int (nI (na r))), some (.int (nI (i + 1))), none]) (by decide +kernel) (Nat.le_of_ble_eq_true rfl) rfl rfl ?_
  intro pp ee ss mm aa bb mt cd X hrt hlk hnm
  have lpC : ∀ (d k : Nat) (h : mu_T), k + d = cl.length → rs g h [2, 3, 20] [1010] → GE h I ((F ++ (op ++ (f.2.1.getD i []))) ++ cl.take k) → Vv pp l ee (rmT 4 0 0) ss mm aa bb mt cd 4 q (MQ bb (Qw q (fun v w => v = none ∧ rs g w.2.2 [2, 3, 20] [1010] ∧ GE w.2.2 I (F ++ qtd true op cl (f.2.1.getD i [])))) aa ss 0 0 (fun a => q.1 ≤ a)) 34 [some (.ref 1003), some (.int (nI (na r))), some (.int (nI (i + 1))), some (.int (nI k))] [] (0, 0, h) := by
    intro d
    induction d with
    | zero =>
      intro k h hkd hs hh
      have hSh := hs.S hS
      have hQh := hQ.kg hs
      refine v_iload_n X (dk D_Rf_giveQuotedArgument 20 rfl) rfl ?_
      refine v_aload_n X (dk D_Rf_giveQuotedArgument 21 rfl) rfl ?_
      refine v_getI X (dk D_Rf_giveQuotedArgument 22 rfl) F_Rf_119 rfl rfl (hSh.lt (by decide)) ?_
      refine v_icmp_ge (tgt := 58) X (dk D_Rf_giveQuotedArgument 23 rfl) (by decide) (fun _ => ?_) (fun c39 => absurd (by rw [hQh.2.1]; exact nI_le (by omega) (by omega)) c39)
      exact v_vret X hlk hrt (dk D_Rf_giveQuotedArgument 32 rfl) ⟨rfl, hs, by rw [List.take_of_length_le (by omega)] at hh; rw [qtd, if_pos rfl, ← List.append_assoc]; exact hh⟩
    | succ d ih =>
      intro k h hkd hs hh
      have hSh := hs.S hS
      have hQh := hQ.kg hs
      refine v_iload_n X (dk D_Rf_giveQuotedArgument 20 rfl) rfl ?_
      refine v_aload_n X (dk D_Rf_giveQuotedArgument 21 rfl) rfl ?_
      refine v_getI X (dk D_Rf_giveQuotedArgument 22 rfl) F_Rf_119 rfl rfl (hSh.lt (by decide)) ?_
      refine v_icmp_ge (tgt := 58) X (dk D_Rf_giveQuotedArgument 23 rfl) (by decide) (fun c39 => absurd c39 (by rw [hQh.2.1]; exact nI_ge (by omega) (by omega))) (fun _ => ?_)
      refine v_aload_n X (dk D_Rf_giveQuotedArgument 24 rfl) rfl ?_
      refine v_aload_n X (dk D_Rf_giveQuotedArgument 25 rfl) rfl ?_
      refine v_getF X (dk D_Rf_giveQuotedArgument 26 rfl) F_Rf_24 rfl rfl (hSh.lt (by decide)) (hSh.2 1003 14) ?_
      refine v_iload_n X (dk D_Rf_giveQuotedArgument 27 rfl) rfl ?_
      refine v_iald X (dk D_Rf_giveQuotedArgument 28 rfl) rfl (hSh.lt (by decide)) (vp_in_nI (show k < 4 by omega) (by decide)) ?_
      rw [nI_clamp (by omega), hQh.2.2.2.2.2.2.2 k (by omega)]
      refine v_invV (As := [.int ((cl.getD k 0) &&& 255)]) (st := []) X (r_give l q (x := ((cl.getD k 0) &&& 255)) hSh (hI.kg hs) hh) (dk D_Rf_giveQuotedArgument 29 rfl) G_Rf_145 K_Rf_give V_Rf_give rfl rfl (hSh.lt (by decide)) rfl rfl (Nat.le_of_ble_eq_true rfl) (Nat.le_of_ble_eq_true rfl) (Nat.le_of_ble_eq_true rfl) (Nat.le_of_ble_eq_true rfl) (Nat.le_of_ble_eq_true rfl) ?_
      rintro v w1 ⟨rfl, a1, a2⟩
      rw [show ((cl.getD k 0) &&& 255).toInt8.toInt32 = (cl.getD k 0) from (and255_b _).trans (hcb _ (getD_mem (by omega))), List.append_assoc, ← take_s (by omega)] at a2
      show Vv _ _ _ _ _ _ _ _ _ _ _ _ _ _ _ [] (0, 0, w1.2.2)
      refine v_iinc (v := nI (k + 1)) (lb := [some (.ref 1003), some (.int (nI (na r))), some (.int (nI (i + 1))), some (.int (nI (k + 1)))]) X (dk D_Rf_giveQuotedArgument 30 rfl) rfl (nI_1 _) (by decide) rfl ?_
      refine v_goto (tgt := 34) X (dk D_Rf_giveQuotedArgument 31 rfl) (by decide) ?_
      exact ih (k + 1) w1.2.2 (by omega) (hs.tr a1) a2
  have lpO : ∀ (d k : Nat) (h : mu_T), k + d = op.length → rs g h [2, 3, 20] [1010] → GE h I (F ++ op.take k) → Vv pp l ee (rmT 4 0 0) ss mm aa bb mt cd 4 q (MQ bb (Qw q (fun v w => v = none ∧ rs g w.2.2 [2, 3, 20] [1010] ∧ GE w.2.2 I (F ++ qtd true op cl (f.2.1.getD i [])))) aa ss 0 0 (fun a => q.1 ≤ a)) 2 [some (.ref 1003), some (.int (nI (na r))), some (.int (nI (i + 1))), some (.int (nI k))] [] (0, 0, h) := by
    intro d
    induction d with
    | zero =>
      intro k h hkd hs hh
      have hSh := hs.S hS
      have hQh := hQ.kg hs
      refine v_iload_n X (dk D_Rf_giveQuotedArgument 2 rfl) rfl ?_
      refine v_aload_n X (dk D_Rf_giveQuotedArgument 3 rfl) rfl ?_
      refine v_getI X (dk D_Rf_giveQuotedArgument 4 rfl) F_Rf_112 rfl rfl (hSh.lt (by decide)) ?_
      refine v_icmp_ge (tgt := 26) X (dk D_Rf_giveQuotedArgument 5 rfl) (by decide) (fun _ => ?_) (fun c7 => absurd (by rw [hQh.1]; exact nI_le (by omega) (by omega)) c7)
      refine v_aload_n X (dk D_Rf_giveQuotedArgument 14 rfl) rfl ?_
      refine v_iload_n X (dk D_Rf_giveQuotedArgument 15 rfl) rfl ?_
      refine v_iload_n X (dk D_Rf_giveQuotedArgument 16 rfl) rfl ?_
      refine v_invV (As := [.int (nI (na r)), .int (nI (i + 1))]) (st := []) X (r_giveArgument l q (i := i) hSh (hI.kg hs) hh (hC.kg hs) hi) (dk D_Rf_giveQuotedArgument 17 rfl) G_Rf_275 K_Rf_giveArgument V_Rf_giveArgument rfl rfl (hSh.lt (by decide)) rfl rfl (Nat.le_of_ble_eq_true rfl) (Nat.le_of_ble_eq_true rfl) (Nat.le_of_ble_eq_true rfl) (Nat.le_of_ble_eq_true rfl) (Nat.le_of_ble_eq_true rfl) ?_
      rintro v w1 ⟨rfl, a1, a2⟩
      rw [List.take_of_length_le (by omega), List.append_assoc] at a2
      show Vv _ _ _ _ _ _ _ _ _ _ _ _ _ _ _ [] (0, 0, w1.2.2)
      refine v_iconst (v := nI 0) X (dk D_Rf_giveQuotedArgument 18 rfl) (by decide) ?_
      refine v_istore_n (lb := [some (.ref 1003), some (.int (nI (na r))), some (.int (nI (i + 1))), some (.int (nI 0))]) X (dk D_Rf_giveQuotedArgument 19 rfl) (by decide) rfl ?_
      exact lpC cl.length 0 w1.2.2 (by omega) (hs.tr a1) (by rw [List.take_zero, List.append_nil]; exact a2)
    | succ d ih =>
      intro k h hkd hs hh
      have hSh := hs.S hS
      have hQh := hQ.kg hs
      refine v_iload_n X (dk D_Rf_giveQuotedArgument 2 rfl) rfl ?_
      refine v_aload_n X (dk D_Rf_giveQuotedArgument 3 rfl) rfl ?_
      refine v_getI X (dk D_Rf_giveQuotedArgument 4 rfl) F_Rf_112 rfl rfl (hSh.lt (by decide)) ?_
      refine v_icmp_ge (tgt := 26) X (dk D_Rf_giveQuotedArgument 5 rfl) (by decide) (fun c7 => absurd c7 (by rw [hQh.1]; exact nI_ge (by omega) (by omega))) (fun _ => ?_)
      refine v_aload_n X (dk D_Rf_giveQuotedArgument 6 rfl) rfl ?_
      refine v_aload_n X (dk D_Rf_giveQuotedArgument 7 rfl) rfl ?_
      refine v_getF X (dk D_Rf_giveQuotedArgument 8 rfl) F_Rf_20 rfl rfl (hSh.lt (by decide)) (hSh.2 1003 12) ?_
      refine v_iload_n X (dk D_Rf_giveQuotedArgument 9 rfl) rfl ?_
      refine v_iald X (dk D_Rf_giveQuotedArgument 10 rfl) rfl (hSh.lt (by decide)) (vp_in_nI (show k < 4 by omega) (by decide)) ?_
      rw [nI_clamp (by omega), hQh.2.2.2.2.2.2.1 k (by omega)]
      refine v_invV (As := [.int ((op.getD k 0) &&& 255)]) (st := []) X (r_give l q (x := ((op.getD k 0) &&& 255)) hSh (hI.kg hs) hh) (dk D_Rf_giveQuotedArgument 11 rfl) G_Rf_145 K_Rf_give V_Rf_give rfl rfl (hSh.lt (by decide)) rfl rfl (Nat.le_of_ble_eq_true rfl) (Nat.le_of_ble_eq_true rfl) (Nat.le_of_ble_eq_true rfl) (Nat.le_of_ble_eq_true rfl) (Nat.le_of_ble_eq_true rfl) ?_
      rintro v w1 ⟨rfl, a1, a2⟩
      rw [show ((op.getD k 0) &&& 255).toInt8.toInt32 = (op.getD k 0) from (and255_b _).trans (hob _ (getD_mem (by omega))), List.append_assoc, ← take_s (by omega)] at a2
      show Vv _ _ _ _ _ _ _ _ _ _ _ _ _ _ _ [] (0, 0, w1.2.2)
      refine v_iinc (v := nI (k + 1)) (lb := [some (.ref 1003), some (.int (nI (na r))), some (.int (nI (i + 1))), some (.int (nI (k + 1)))]) X (dk D_Rf_giveQuotedArgument 12 rfl) rfl (nI_1 _) (by decide) rfl ?_
      refine v_goto (tgt := 2) X (dk D_Rf_giveQuotedArgument 13 rfl) (by decide) ?_
      exact ih (k + 1) w1.2.2 (by omega) (hs.tr a1) a2
  refine v_iconst (v := nI 0) X (dk D_Rf_giveQuotedArgument 0 rfl) (by decide) ?_
  refine v_istore_n (lb := [some (.ref 1003), some (.int (nI (na r))), some (.int (nI (i + 1))), some (.int (nI 0))]) X (dk D_Rf_giveQuotedArgument 1 rfl) (by decide) rfl ?_
  exact lpO op.length 0 g (by omega) (rs.rf g _ _) (by rw [List.take_zero, List.append_nil]; exact hE)
