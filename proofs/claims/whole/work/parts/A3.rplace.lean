/-! the reference: the first place; a choice -/
set_option maxHeartbeats 4000000 in
set_option maxRecDepth 100000 in
theorem r_placeOf (l : Launch) (q : ev_T) {f : Fr} {r : List Fr} {g : mu_T} (hS : Shp g) (hC : AC g f r) : Ctr l q M_Rf_placeOf 1 [.ref 1003, .int (nI (na r))] (0, 0, g) (fun v w => v = some (.int (plc (f.2.1.getD 0 []) (f.2.1.getD 1 []))) ∧ w.2.2 = g) := by
  have hle := ag_le (f := f) (r := r) 0
  have hle2 := ag_le (f := f) (r := r) 1
  have h16 := hC.1.1.2.2
  have hrow := hC.1.1.arg 0
  have hrow2 := hC.1.1.arg 1
  refine Ctr.mk (lb := [some (.ref 1003), some (.int (nI (na r))), none, none, none, none, none]) (by decide +kernel) (Nat.le_of_ble_eq_true rfl) rfl rfl ?_
  intro pp ee ss mm aa bb mt cd X hrt hlk hnm
  have loop : ∀ (d p : Nat), p + d = (f.2.1.getD 0 []).length + 1 → (∀ j, j < p → ¬ ((f.2.1.getD 0 []).drop j).take (f.2.1.getD 1 []).length = (f.2.1.getD 1 [])) → Vv pp l ee (rmT 1 0 0) ss mm aa bb mt cd 7 q (MQ bb (Qw q (fun v w => v = some (.int (plc (f.2.1.getD 0 []) (f.2.1.getD 1 []))) ∧ w.2.2 = g)) aa ss 0 0 (fun a => q.1 ≤ a)) 17 [some (.ref 1003), some (.int (nI (na r))), some (.int (nI (f.2.1.getD 0 []).length)), some (.int (nI (f.2.1.getD 1 []).length)), some (.int (nI p)), none, none] [] (0, 0, g) := by
    intro d
    induction d with
    | zero =>
      intro p hpd hno
      refine v_iload X (dk D_Rf_placeOf 12 rfl) rfl ?_
      refine v_iload_n X (dk D_Rf_placeOf 13 rfl) rfl ?_
      refine v_iadd X (dk D_Rf_placeOf 14 rfl) ?_
      refine v_iload_n X (dk D_Rf_placeOf 15 rfl) rfl ?_
      refine v_icmp_gt (tgt := 103) X (dk D_Rf_placeOf 16 rfl) (by decide) (fun _ => ?_) (fun c22 => absurd (by rw [nI_add]; exact nI_lt (by omega) (by omega)) c22)
      refine v_iconst (v := -1) X (dk D_Rf_placeOf 59 rfl) (by decide) ?_
      exact v_iret X hlk hrt (dk D_Rf_placeOf 60 rfl) ⟨by rw [plc_none (fun j hj => hno j (by omega))], rfl⟩
    | succ d ih =>
      intro p hpd hno
      by_cases hpn : p + (f.2.1.getD 1 []).length ≤ (f.2.1.getD 0 []).length
      · skip
        have bad : ¬ ((f.2.1.getD 0 []).drop p).take (f.2.1.getD 1 []).length = (f.2.1.getD 1 []) → ∀ k, k ≤ (f.2.1.getD 1 []).length + 1 → Vv pp l ee (rmT 1 0 0) ss mm aa bb mt cd 7 q (MQ bb (Qw q (fun v w => v = some (.int (plc (f.2.1.getD 0 []) (f.2.1.getD 1 []))) ∧ w.2.2 = g)) aa ss 0 0 (fun a => q.1 ≤ a)) 31 [some (.ref 1003), some (.int (nI (na r))), some (.int (nI (f.2.1.getD 0 []).length)), some (.int (nI (f.2.1.getD 1 []).length)), some (.int (nI p)), some (.int 0), some (.int (nI k))] [] (0, 0, g) := by
          intro hbad k hk
          by_cases c : (f.2.1.getD 1 []).length ≤ k
          · refine v_iload X (dk D_Rf_placeOf 21 rfl) rfl ?_
            refine v_iload_n X (dk D_Rf_placeOf 22 rfl) rfl ?_
            refine v_icmp_ge (tgt := 89) X (dk D_Rf_placeOf 23 rfl) (by decide) (fun _ => ?_) (fun c34 => absurd (nI_le (by omega) (by omega)) c34)
            refine v_iload X (dk D_Rf_placeOf 53 rfl) rfl ?_
            refine v_if_eq (tgt := 97) X (dk D_Rf_placeOf 54 rfl) (by decide) (fun _ => ?_) (fun c91 => absurd rfl c91)
            refine v_iinc (v := nI (p + 1)) (lb := [some (.ref 1003), some (.int (nI (na r))), some (.int (nI (f.2.1.getD 0 []).length)), some (.int (nI (f.2.1.getD 1 []).length)), some (.int (nI (p + 1))), some (.int 0), some (.int (nI k))]) X (dk D_Rf_placeOf 57 rfl) rfl (nI_1 _) (by decide) rfl ?_
            refine v_goto (tgt := 17) X (dk D_Rf_placeOf 58 rfl) (by decide) ?_
            exact v_weak (la := [some (.ref 1003), some (.int (nI (na r))), some (.int (nI (f.2.1.getD 0 []).length)), some (.int (nI (f.2.1.getD 1 []).length)), some (.int (nI (p + 1))), none, none]) ⟨rfl, rfl, rfl, rfl, rfl, trivial⟩ <| ih (p + 1) (by omega) (fun j hj => by by_cases e : j = p; (rw [e]; exact hbad); exact hno j (by omega))
          · refine v_iload X (dk D_Rf_placeOf 21 rfl) rfl ?_
            refine v_iload_n X (dk D_Rf_placeOf 22 rfl) rfl ?_
            refine v_icmp_ge (tgt := 89) X (dk D_Rf_placeOf 23 rfl) (by decide) (fun c34 => absurd c34 (nI_ge (by omega) (by omega))) (fun _ => ?_)
            refine v_iload X (dk D_Rf_placeOf 24 rfl) rfl ?_
            refine v_if_eq (tgt := 89) X (dk D_Rf_placeOf 25 rfl) (by decide) (fun _ => ?_) (fun c39 => absurd rfl c39)
            refine v_iload X (dk D_Rf_placeOf 53 rfl) rfl ?_
            refine v_if_eq (tgt := 97) X (dk D_Rf_placeOf 54 rfl) (by decide) (fun _ => ?_) (fun c91 => absurd rfl c91)
            refine v_iinc (v := nI (p + 1)) (lb := [some (.ref 1003), some (.int (nI (na r))), some (.int (nI (f.2.1.getD 0 []).length)), some (.int (nI (f.2.1.getD 1 []).length)), some (.int (nI (p + 1))), some (.int 0), some (.int (nI k))]) X (dk D_Rf_placeOf 57 rfl) rfl (nI_1 _) (by decide) rfl ?_
            refine v_goto (tgt := 17) X (dk D_Rf_placeOf 58 rfl) (by decide) ?_
            exact v_weak (la := [some (.ref 1003), some (.int (nI (na r))), some (.int (nI (f.2.1.getD 0 []).length)), some (.int (nI (f.2.1.getD 1 []).length)), some (.int (nI (p + 1))), none, none]) ⟨rfl, rfl, rfl, rfl, rfl, trivial⟩ <| ih (p + 1) (by omega) (fun j hj => by by_cases e : j = p; (rw [e]; exact hbad); exact hno j (by omega))
        have inner : ∀ (e k : Nat), k + e = (f.2.1.getD 1 []).length → (∀ j, j < k → (f.2.1.getD 0 []).getD (p + j) 0 = (f.2.1.getD 1 []).getD j 0) → Vv pp l ee (rmT 1 0 0) ss mm aa bb mt cd 7 q (MQ bb (Qw q (fun v w => v = some (.int (plc (f.2.1.getD 0 []) (f.2.1.getD 1 []))) ∧ w.2.2 = g)) aa ss 0 0 (fun a => q.1 ≤ a)) 31 [some (.ref 1003), some (.int (nI (na r))), some (.int (nI (f.2.1.getD 0 []).length)), some (.int (nI (f.2.1.getD 1 []).length)), some (.int (nI p)), some (.int 1), some (.int (nI k))] [] (0, 0, g) := by
          intro e
          induction e with
          | zero =>
            intro k hke hm
            refine v_iload X (dk D_Rf_placeOf 21 rfl) rfl ?_
            refine v_iload_n X (dk D_Rf_placeOf 22 rfl) rfl ?_
            refine v_icmp_ge (tgt := 89) X (dk D_Rf_placeOf 23 rfl) (by decide) (fun _ => ?_) (fun c34 => absurd (nI_le (by omega) (by omega)) c34)
            refine v_iload X (dk D_Rf_placeOf 53 rfl) rfl ?_
            refine v_if_eq (tgt := 97) X (dk D_Rf_placeOf 54 rfl) (by decide) (fun c91 => absurd c91 (by decide)) (fun _ => ?_)
            refine v_iload X (dk D_Rf_placeOf 55 rfl) rfl ?_
            exact v_iret X hlk hrt (dk D_Rf_placeOf 56 rfl) ⟨by rw [plc_some (by omega) (eq_getD (sl_len hpn) (fun j hj => by rw [sl_get hj]; exact hm j (by omega))) hno], rfl⟩
          | succ e ihk =>
            intro k hke hm
            refine v_iload X (dk D_Rf_placeOf 21 rfl) rfl ?_
            refine v_iload_n X (dk D_Rf_placeOf 22 rfl) rfl ?_
            refine v_icmp_ge (tgt := 89) X (dk D_Rf_placeOf 23 rfl) (by decide) (fun c34 => absurd c34 (nI_ge (by omega) (by omega))) (fun _ => ?_)
            refine v_iload X (dk D_Rf_placeOf 24 rfl) rfl ?_
            refine v_if_eq (tgt := 89) X (dk D_Rf_placeOf 25 rfl) (by decide) (fun c39 => absurd c39 (by decide)) (fun _ => ?_)
            refine v_aload_n X (dk D_Rf_placeOf 26 rfl) rfl ?_
            refine v_getF X (dk D_Rf_placeOf 27 rfl) F_Rf_56 rfl rfl (hS.lt (by decide)) (hS.2 1003 35) ?_
            refine v_aload_n X (dk D_Rf_placeOf 28 rfl) rfl ?_
            refine v_iload_n X (dk D_Rf_placeOf 29 rfl) rfl ?_
            refine v_iconst (v := nI (0 + 1)) X (dk D_Rf_placeOf 30 rfl) (by decide) ?_
            refine v_invV (As := [.int (nI (na r)), .int (nI (0 + 1))]) (st := [.ref 1018]) X (r_argumentAt l q (i := 0) hS hC (by omega)) (dk D_Rf_placeOf 31 rfl) G_Rf_268 K_Rf_argumentAt V_Rf_argumentAt rfl rfl (hS.lt (by decide)) rfl rfl (Nat.le_of_ble_eq_true rfl) (Nat.le_of_ble_eq_true rfl) (Nat.le_of_ble_eq_true rfl) (Nat.le_of_ble_eq_true rfl) (Nat.le_of_ble_eq_true rfl) ?_
            rintro v ws ⟨rfl, hws⟩
            rw [hws]
            show Vv _ _ _ _ _ _ _ _ _ _ _ _ _ _ _ [.int (nI (stA f r 0)), .ref 1018] (0, 0, g)
            refine v_iload X (dk D_Rf_placeOf 32 rfl) rfl ?_
            refine v_iadd X (dk D_Rf_placeOf 33 rfl) ?_
            rw [nI_add]
            refine v_iload X (dk D_Rf_placeOf 34 rfl) rfl ?_
            refine v_iadd X (dk D_Rf_placeOf 35 rfl) ?_
            rw [nI_add]
            refine v_bald X (dk D_Rf_placeOf 36 rfl) rfl (hS.lt (by decide)) (vp_in_nI (show stA f r 0 + p + k < 16385 by omega) (by decide)) ?_
            rw [nI_clamp (by omega), Nat.add_assoc (stA f r 0) p k, hrow (p + k) (by omega)]
            refine v_aload_n X (dk D_Rf_placeOf 37 rfl) rfl ?_
            refine v_getF X (dk D_Rf_placeOf 38 rfl) F_Rf_56 rfl rfl (hS.lt (by decide)) (hS.2 1003 35) ?_
            refine v_aload_n X (dk D_Rf_placeOf 39 rfl) rfl ?_
            refine v_iload_n X (dk D_Rf_placeOf 40 rfl) rfl ?_
            refine v_iconst (v := nI (1 + 1)) X (dk D_Rf_placeOf 41 rfl) (by decide) ?_
            refine v_invV (As := [.int (nI (na r)), .int (nI (1 + 1))]) (st := [.ref 1018, .int ((f.2.1.getD 0 []).getD (p + k) 0)]) X (r_argumentAt l q (i := 1) hS hC (by omega)) (dk D_Rf_placeOf 42 rfl) G_Rf_268 K_Rf_argumentAt V_Rf_argumentAt rfl rfl (hS.lt (by decide)) rfl rfl (Nat.le_of_ble_eq_true rfl) (Nat.le_of_ble_eq_true rfl) (Nat.le_of_ble_eq_true rfl) (Nat.le_of_ble_eq_true rfl) (Nat.le_of_ble_eq_true rfl) ?_
            rintro v ws ⟨rfl, hws⟩
            rw [hws]
            show Vv _ _ _ _ _ _ _ _ _ _ _ _ _ _ _ [.int (nI (stA f r 1)), .ref 1018, .int ((f.2.1.getD 0 []).getD (p + k) 0)] (0, 0, g)
            refine v_iload X (dk D_Rf_placeOf 43 rfl) rfl ?_
            refine v_iadd X (dk D_Rf_placeOf 44 rfl) ?_
            rw [nI_add]
            refine v_bald X (dk D_Rf_placeOf 45 rfl) rfl (hS.lt (by decide)) (vp_in_nI (show stA f r 1 + k < 16385 by omega) (by decide)) ?_
            rw [nI_clamp (by omega), hrow2 k (by omega)]
            refine v_icmp_ne (tgt := 80) X (dk D_Rf_placeOf 46 rfl) (by decide) (fun c73 => ?_) (fun c73 => ?_)
            · refine v_iconst (v := 0) X (dk D_Rf_placeOf 49 rfl) (by decide) ?_
              refine v_istore (lb := [some (.ref 1003), some (.int (nI (na r))), some (.int (nI (f.2.1.getD 0 []).length)), some (.int (nI (f.2.1.getD 1 []).length)), some (.int (nI p)), some (.int 0), some (.int (nI k))]) X (dk D_Rf_placeOf 50 rfl) (by decide) rfl ?_
              refine v_iinc (v := nI (k + 1)) (lb := [some (.ref 1003), some (.int (nI (na r))), some (.int (nI (f.2.1.getD 0 []).length)), some (.int (nI (f.2.1.getD 1 []).length)), some (.int (nI p)), some (.int 0), some (.int (nI (k + 1)))]) X (dk D_Rf_placeOf 51 rfl) rfl (nI_1 k) (by decide) rfl ?_
              refine v_goto (tgt := 31) X (dk D_Rf_placeOf 52 rfl) (by decide) ?_
              exact bad (fun z => c73 (by rw [← sl_get (xs := (f.2.1.getD 0 [])) (st := p) (n := (f.2.1.getD 1 []).length) (by omega), z])) (k + 1) (by omega)
            · refine v_iconst (v := 1) X (dk D_Rf_placeOf 47 rfl) (by decide) ?_
              refine v_goto (tgt := 81) X (dk D_Rf_placeOf 48 rfl) (by decide) ?_
              refine v_istore (lb := [some (.ref 1003), some (.int (nI (na r))), some (.int (nI (f.2.1.getD 0 []).length)), some (.int (nI (f.2.1.getD 1 []).length)), some (.int (nI p)), some (.int 1), some (.int (nI k))]) X (dk D_Rf_placeOf 50 rfl) (by decide) rfl ?_
              refine v_iinc (v := nI (k + 1)) (lb := [some (.ref 1003), some (.int (nI (na r))), some (.int (nI (f.2.1.getD 0 []).length)), some (.int (nI (f.2.1.getD 1 []).length)), some (.int (nI p)), some (.int 1), some (.int (nI (k + 1)))]) X (dk D_Rf_placeOf 51 rfl) rfl (nI_1 k) (by decide) rfl ?_
              refine v_goto (tgt := 31) X (dk D_Rf_placeOf 52 rfl) (by decide) ?_
              exact ihk (k + 1) (by omega) (fun j hj => by by_cases c : j = k; (rw [c]; exact c73); exact hm j (by omega))
        refine v_iload X (dk D_Rf_placeOf 12 rfl) rfl ?_
        refine v_iload_n X (dk D_Rf_placeOf 13 rfl) rfl ?_
        refine v_iadd X (dk D_Rf_placeOf 14 rfl) ?_
        refine v_iload_n X (dk D_Rf_placeOf 15 rfl) rfl ?_
        refine v_icmp_gt (tgt := 103) X (dk D_Rf_placeOf 16 rfl) (by decide) (fun c22 => absurd c22 (by rw [nI_add]; exact nI_nlt (by omega) (by omega))) (fun _ => ?_)
        refine v_iconst (v := 1) X (dk D_Rf_placeOf 17 rfl) (by decide) ?_
        refine v_istore (lb := [some (.ref 1003), some (.int (nI (na r))), some (.int (nI (f.2.1.getD 0 []).length)), some (.int (nI (f.2.1.getD 1 []).length)), some (.int (nI p)), some (.int 1), none]) X (dk D_Rf_placeOf 18 rfl) (by decide) rfl ?_
        refine v_iconst (v := nI 0) X (dk D_Rf_placeOf 19 rfl) (by decide) ?_
        refine v_istore (lb := [some (.ref 1003), some (.int (nI (na r))), some (.int (nI (f.2.1.getD 0 []).length)), some (.int (nI (f.2.1.getD 1 []).length)), some (.int (nI p)), some (.int 1), some (.int (nI 0))]) X (dk D_Rf_placeOf 20 rfl) (by decide) rfl ?_
        exact inner (f.2.1.getD 1 []).length 0 (by omega) (fun j hj => by omega)
      · refine v_iload X (dk D_Rf_placeOf 12 rfl) rfl ?_
        refine v_iload_n X (dk D_Rf_placeOf 13 rfl) rfl ?_
        refine v_iadd X (dk D_Rf_placeOf 14 rfl) ?_
        refine v_iload_n X (dk D_Rf_placeOf 15 rfl) rfl ?_
        refine v_icmp_gt (tgt := 103) X (dk D_Rf_placeOf 16 rfl) (by decide) (fun _ => ?_) (fun c22 => absurd (by rw [nI_add]; exact nI_lt (by omega) (by omega)) c22)
        refine v_iconst (v := -1) X (dk D_Rf_placeOf 59 rfl) (by decide) ?_
        exact v_iret X hlk hrt (dk D_Rf_placeOf 60 rfl) ⟨by rw [plc_none (fun j hj => hno j (by omega))], rfl⟩
  refine v_aload_n X (dk D_Rf_placeOf 0 rfl) rfl ?_
  refine v_iload_n X (dk D_Rf_placeOf 1 rfl) rfl ?_
  refine v_iconst (v := nI (0 + 1)) X (dk D_Rf_placeOf 2 rfl) (by decide) ?_
  refine v_invV (As := [.int (nI (na r)), .int (nI (0 + 1))]) (st := []) X (r_argumentSize l q (i := 0) hS hC (by omega)) (dk D_Rf_placeOf 3 rfl) G_Rf_272 K_Rf_argumentSize V_Rf_argumentSize rfl rfl (hS.lt (by decide)) rfl rfl (Nat.le_of_ble_eq_true rfl) (Nat.le_of_ble_eq_true rfl) (Nat.le_of_ble_eq_true rfl) (Nat.le_of_ble_eq_true rfl) (Nat.le_of_ble_eq_true rfl) ?_
  rintro v ws ⟨rfl, hws⟩
  rw [hws]
  show Vv _ _ _ _ _ _ _ _ _ _ _ _ _ _ _ [.int (nI (f.2.1.getD 0 []).length)] (0, 0, g)
  refine v_istore_n (lb := [some (.ref 1003), some (.int (nI (na r))), some (.int (nI (f.2.1.getD 0 []).length)), none, none, none, none]) X (dk D_Rf_placeOf 4 rfl) (by decide) rfl ?_
  refine v_aload_n X (dk D_Rf_placeOf 5 rfl) rfl ?_
  refine v_iload_n X (dk D_Rf_placeOf 6 rfl) rfl ?_
  refine v_iconst (v := nI (1 + 1)) X (dk D_Rf_placeOf 7 rfl) (by decide) ?_
  refine v_invV (As := [.int (nI (na r)), .int (nI (1 + 1))]) (st := []) X (r_argumentSize l q (i := 1) hS hC (by omega)) (dk D_Rf_placeOf 8 rfl) G_Rf_272 K_Rf_argumentSize V_Rf_argumentSize rfl rfl (hS.lt (by decide)) rfl rfl (Nat.le_of_ble_eq_true rfl) (Nat.le_of_ble_eq_true rfl) (Nat.le_of_ble_eq_true rfl) (Nat.le_of_ble_eq_true rfl) (Nat.le_of_ble_eq_true rfl) ?_
  rintro v ws ⟨rfl, hws⟩
  rw [hws]
  show Vv _ _ _ _ _ _ _ _ _ _ _ _ _ _ _ [.int (nI (f.2.1.getD 1 []).length)] (0, 0, g)
  refine v_istore_n (lb := [some (.ref 1003), some (.int (nI (na r))), some (.int (nI (f.2.1.getD 0 []).length)), some (.int (nI (f.2.1.getD 1 []).length)), none, none, none]) X (dk D_Rf_placeOf 9 rfl) (by decide) rfl ?_
  refine v_iconst (v := nI 0) X (dk D_Rf_placeOf 10 rfl) (by decide) ?_
  refine v_istore (lb := [some (.ref 1003), some (.int (nI (na r))), some (.int (nI (f.2.1.getD 0 []).length)), some (.int (nI (f.2.1.getD 1 []).length)), some (.int (nI 0)), none, none]) X (dk D_Rf_placeOf 11 rfl) (by decide) rfl ?_
  exact loop ((f.2.1.getD 0 []).length + 1) 0 (by omega) (fun j hj => by omega)
set_option maxHeartbeats 4000000 in
set_option maxRecDepth 100000 in
theorem r_choose (l : Launch) (q : ev_T) {fu : Nat} {f : Fr} {r : List Fr} {I : Ip} {F : List Int32} {g : mu_T} (hS : Shp g) (hI : RQ g fu I) (hE : GE g I F) (hC : AC g f r) : Ctr l q M_Rf_choose 4 [.ref 1003, .int (nI (na r)), .int (nI f.2.1.length)] (0, 0, g) (fun v w => v = none ∧ rs g w.2.2 [2, 3, 20] [1010] ∧ GE w.2.2 I (F ++ ifX f.2.1)) := by
  have hna : na r + f.2.1.length ≤ 8192 := hC.1.2.2.1
  refine Ctr.mk (lb := [some (.ref 1003), some (.int (nI (na r))), some (.int (nI f.2.1.length)), none, none, none]) (by decide +kernel) (Nat.le_of_ble_eq_true rfl) rfl rfl ?_
  intro pp ee ss mm aa bb mt cd X hrt hlk hnm
  have fin : ∀ (k lf : Int32) (h : mu_T), rs g h [2, 3, 20] [1010] → GE h I (F ++ ifX f.2.1) → Vv pp l ee (rmT 4 0 0) ss mm aa bb mt cd 6 q (MQ bb (Qw q (fun v w => v = none ∧ rs g w.2.2 [2, 3, 20] [1010] ∧ GE w.2.2 I (F ++ ifX f.2.1))) aa ss 0 0 (fun a => q.1 ≤ a)) 14 [some (.ref 1003), some (.int (nI (na r))), some (.int (nI f.2.1.length)), some (.int k), some (.int 1), some (.int lf)] [] (0, 0, h) := by
    intro k lf h hs hh
    have hSh := hs.S hS
    refine v_iload X (dk D_Rf_choose 9 rfl) rfl ?_
    refine v_if_ne (tgt := 86) X (dk D_Rf_choose 10 rfl) (by decide) (fun _ => ?_) (fun c16 => absurd c16 (by decide))
    exact v_vret X hlk hrt (dk D_Rf_choose 54 rfl) ⟨rfl, hs, hh⟩
  have fin2 : ∀ (k : Int32), GE g I (F ++ ifX f.2.1) → Vv pp l ee (rmT 4 0 0) ss mm aa bb mt cd 6 q (MQ bb (Qw q (fun v w => v = none ∧ rs g w.2.2 [2, 3, 20] [1010] ∧ GE w.2.2 I (F ++ ifX f.2.1))) aa ss 0 0 (fun a => q.1 ≤ a)) 14 [some (.ref 1003), some (.int (nI (na r))), some (.int (nI f.2.1.length)), some (.int k), some (.int 1), none] [] (0, 0, g) := by
    intro k hh
    have hs := rs.rf g [2, 3, 20] [1010]
    have hSh := hS
    refine v_iload X (dk D_Rf_choose 9 rfl) rfl ?_
    refine v_if_ne (tgt := 86) X (dk D_Rf_choose 10 rfl) (by decide) (fun _ => ?_) (fun c16 => absurd c16 (by decide))
    exact v_vret X hlk hrt (dk D_Rf_choose 54 rfl) ⟨rfl, hs, hh⟩
  have loop : ∀ (d k : Nat), f.2.1.length ≤ k + d → k + 3 ≤ f.2.1.length → ifX (f.2.1.drop k) = ifX f.2.1 → Vv pp l ee (rmT 4 0 0) ss mm aa bb mt cd 6 q (MQ bb (Qw q (fun v w => v = none ∧ rs g w.2.2 [2, 3, 20] [1010] ∧ GE w.2.2 I (F ++ ifX f.2.1))) aa ss 0 0 (fun a => q.1 ≤ a)) 14 [some (.ref 1003), some (.int (nI (na r))), some (.int (nI f.2.1.length)), some (.int (nI (k + 1))), some (.int 0), none] [] (0, 0, g) := by
    intro d
    induction d with
    | zero => intro k h1 h2; omega
    | succ d ih =>
      intro k hkd hk3 hif
      have hdr := dr3 hk3
      by_cases hsame : f.2.1.getD k [] = f.2.1.getD (k + 1) []
      · refine v_iload X (dk D_Rf_choose 9 rfl) rfl ?_
        refine v_if_ne (tgt := 86) X (dk D_Rf_choose 10 rfl) (by decide) (fun c16 => absurd rfl c16) (fun _ => ?_)
        refine v_iload_n X (dk D_Rf_choose 11 rfl) rfl ?_
        refine v_iload_n X (dk D_Rf_choose 12 rfl) rfl ?_
        refine v_isub X (dk D_Rf_choose 13 rfl) ?_
        rw [pk_sub (by omega)]
        refine v_iconst (v := 1) X (dk D_Rf_choose 14 rfl) (by decide) ?_
        refine v_iadd X (dk D_Rf_choose 15 rfl) ?_
        rw [nI_1, show f.2.1.length - (k + 1) + 1 = f.2.1.length - k by omega]
        refine v_istore (lb := [some (.ref 1003), some (.int (nI (na r))), some (.int (nI f.2.1.length)), some (.int (nI (k + 1))), some (.int 0), some (.int (nI (f.2.1.length - k)))]) X (dk D_Rf_choose 16 rfl) (by decide) rfl ?_
        refine v_aload_n X (dk D_Rf_choose 17 rfl) rfl ?_
        refine v_iload_n X (dk D_Rf_choose 18 rfl) rfl ?_
        refine v_iload_n X (dk D_Rf_choose 19 rfl) rfl ?_
        refine v_iload_n X (dk D_Rf_choose 20 rfl) rfl ?_
        refine v_iconst (v := 1) X (dk D_Rf_choose 21 rfl) (by decide) ?_
        refine v_iadd X (dk D_Rf_choose 22 rfl) ?_
        rw [nI_1]
        refine v_invV (As := [.int (nI (na r)), .int (nI (k + 1)), .int (nI (k + 1 + 1))]) (st := []) X (r_same l q (i := k) (j := k + 1) hS hC (by omega) (by omega)) (dk D_Rf_choose 23 rfl) G_Rf_321 K_Rf_same V_Rf_same rfl rfl (hS.lt (by decide)) rfl rfl (Nat.le_of_ble_eq_true rfl) (Nat.le_of_ble_eq_true rfl) (Nat.le_of_ble_eq_true rfl) (Nat.le_of_ble_eq_true rfl) (Nat.le_of_ble_eq_true rfl) ?_
        rintro v ws ⟨rfl, hws⟩
        rw [hws, if_pos hsame]
        show Vv _ _ _ _ _ _ _ _ _ _ _ _ _ _ _ [.int 1] (0, 0, g)
        refine v_if_eq (tgt := 52) X (dk D_Rf_choose 24 rfl) (by decide) (fun c35 => absurd c35 (by decide)) (fun _ => ?_)
        refine v_aload_n X (dk D_Rf_choose 25 rfl) rfl ?_
        refine v_iload_n X (dk D_Rf_choose 26 rfl) rfl ?_
        refine v_iload_n X (dk D_Rf_choose 27 rfl) rfl ?_
        refine v_iconst (v := 2) X (dk D_Rf_choose 28 rfl) (by decide) ?_
        refine v_iadd X (dk D_Rf_choose 29 rfl) ?_
        rw [show nI (k + 1) + 2 = nI (k + 2 + 1) from by rw [show (2 : Int32) = nI 2 from rfl, nI_add]]
        refine v_invV (As := [.int (nI (na r)), .int (nI ((k + 2) + 1))]) (st := []) X (r_giveArgument l q (i := (k + 2)) hS (hI.kg (rs.rf g _ _)) hE (hC.kg (rs.rf g _ _)) (by omega)) (dk D_Rf_choose 30 rfl) G_Rf_275 K_Rf_giveArgument V_Rf_giveArgument rfl rfl (hS.lt (by decide)) rfl rfl (Nat.le_of_ble_eq_true rfl) (Nat.le_of_ble_eq_true rfl) (Nat.le_of_ble_eq_true rfl) (Nat.le_of_ble_eq_true rfl) (Nat.le_of_ble_eq_true rfl) ?_
        rintro v w1 ⟨rfl, a1, a2⟩
        show Vv _ _ _ _ _ _ _ _ _ _ _ _ _ _ _ [] (0, 0, w1.2.2)
        refine v_iconst (v := 1) X (dk D_Rf_choose 31 rfl) (by decide) ?_
        refine v_istore (lb := [some (.ref 1003), some (.int (nI (na r))), some (.int (nI f.2.1.length)), some (.int (nI (k + 1))), some (.int 1), some (.int (nI (f.2.1.length - k)))]) X (dk D_Rf_choose 32 rfl) (by decide) rfl ?_
        refine v_goto (tgt := 83) X (dk D_Rf_choose 33 rfl) (by decide) ?_
        refine v_goto (tgt := 14) X (dk D_Rf_choose 53 rfl) (by decide) ?_
        exact fin _ _ w1.2.2 a1 (by rw [← hif, hdr, ifX_c, if_pos hsame]; exact a2)
      by_cases c6 : f.2.1.length - k < 6
      · by_cases c3 : 3 < f.2.1.length - k
        · refine v_iload X (dk D_Rf_choose 9 rfl) rfl ?_
          refine v_if_ne (tgt := 86) X (dk D_Rf_choose 10 rfl) (by decide) (fun c16 => absurd rfl c16) (fun _ => ?_)
          refine v_iload_n X (dk D_Rf_choose 11 rfl) rfl ?_
          refine v_iload_n X (dk D_Rf_choose 12 rfl) rfl ?_
          refine v_isub X (dk D_Rf_choose 13 rfl) ?_
          rw [pk_sub (by omega)]
          refine v_iconst (v := 1) X (dk D_Rf_choose 14 rfl) (by decide) ?_
          refine v_iadd X (dk D_Rf_choose 15 rfl) ?_
          rw [nI_1, show f.2.1.length - (k + 1) + 1 = f.2.1.length - k by omega]
          refine v_istore (lb := [some (.ref 1003), some (.int (nI (na r))), some (.int (nI f.2.1.length)), some (.int (nI (k + 1))), some (.int 0), some (.int (nI (f.2.1.length - k)))]) X (dk D_Rf_choose 16 rfl) (by decide) rfl ?_
          refine v_aload_n X (dk D_Rf_choose 17 rfl) rfl ?_
          refine v_iload_n X (dk D_Rf_choose 18 rfl) rfl ?_
          refine v_iload_n X (dk D_Rf_choose 19 rfl) rfl ?_
          refine v_iload_n X (dk D_Rf_choose 20 rfl) rfl ?_
          refine v_iconst (v := 1) X (dk D_Rf_choose 21 rfl) (by decide) ?_
          refine v_iadd X (dk D_Rf_choose 22 rfl) ?_
          rw [nI_1]
          refine v_invV (As := [.int (nI (na r)), .int (nI (k + 1)), .int (nI (k + 1 + 1))]) (st := []) X (r_same l q (i := k) (j := k + 1) hS hC (by omega) (by omega)) (dk D_Rf_choose 23 rfl) G_Rf_321 K_Rf_same V_Rf_same rfl rfl (hS.lt (by decide)) rfl rfl (Nat.le_of_ble_eq_true rfl) (Nat.le_of_ble_eq_true rfl) (Nat.le_of_ble_eq_true rfl) (Nat.le_of_ble_eq_true rfl) (Nat.le_of_ble_eq_true rfl) ?_
          rintro v ws ⟨rfl, hws⟩
          rw [hws, if_neg hsame]
          show Vv _ _ _ _ _ _ _ _ _ _ _ _ _ _ _ [.int 0] (0, 0, g)
          refine v_if_eq (tgt := 52) X (dk D_Rf_choose 24 rfl) (by decide) (fun _ => ?_) (fun c35 => absurd rfl c35)
          refine v_iload X (dk D_Rf_choose 34 rfl) rfl ?_
          refine v_bipush (v := 6) X (dk D_Rf_choose 35 rfl) (by decide) ?_
          refine v_icmp_ge (tgt := 79) X (dk D_Rf_choose 36 rfl) (by decide) (fun c56 => absurd c56 (nI_ge (b := 6) (by omega) (by decide))) (fun _ => ?_)
          refine v_iload X (dk D_Rf_choose 37 rfl) rfl ?_
          refine v_iconst (v := 3) X (dk D_Rf_choose 38 rfl) (by decide) ?_
          refine v_icmp_le (tgt := 73) X (dk D_Rf_choose 39 rfl) (by decide) (fun c62 => absurd c62 (fun z => absurd ((nI_leI (b := 3) (by omega) (by decide)).mp z) (by omega))) (fun _ => ?_)
          refine v_aload_n X (dk D_Rf_choose 40 rfl) rfl ?_
          refine v_iload_n X (dk D_Rf_choose 41 rfl) rfl ?_
          refine v_iload_n X (dk D_Rf_choose 42 rfl) rfl ?_
          refine v_iconst (v := 3) X (dk D_Rf_choose 43 rfl) (by decide) ?_
          refine v_iadd X (dk D_Rf_choose 44 rfl) ?_
          rw [show nI (k + 1) + 3 = nI (k + 3 + 1) from by rw [show (3 : Int32) = nI 3 from rfl, nI_add]]
          refine v_invV (As := [.int (nI (na r)), .int (nI ((k + 3) + 1))]) (st := []) X (r_giveArgument l q (i := (k + 3)) hS (hI.kg (rs.rf g _ _)) hE (hC.kg (rs.rf g _ _)) (by omega)) (dk D_Rf_choose 45 rfl) G_Rf_275 K_Rf_giveArgument V_Rf_giveArgument rfl rfl (hS.lt (by decide)) rfl rfl (Nat.le_of_ble_eq_true rfl) (Nat.le_of_ble_eq_true rfl) (Nat.le_of_ble_eq_true rfl) (Nat.le_of_ble_eq_true rfl) (Nat.le_of_ble_eq_true rfl) ?_
          rintro v w1 ⟨rfl, a1, a2⟩
          show Vv _ _ _ _ _ _ _ _ _ _ _ _ _ _ _ [] (0, 0, w1.2.2)
          refine v_iconst (v := 1) X (dk D_Rf_choose 46 rfl) (by decide) ?_
          refine v_istore (lb := [some (.ref 1003), some (.int (nI (na r))), some (.int (nI f.2.1.length)), some (.int (nI (k + 1))), some (.int 1), some (.int (nI (f.2.1.length - k)))]) X (dk D_Rf_choose 47 rfl) (by decide) rfl ?_
          refine v_goto (tgt := 83) X (dk D_Rf_choose 48 rfl) (by decide) ?_
          refine v_goto (tgt := 14) X (dk D_Rf_choose 53 rfl) (by decide) ?_
          exact fin _ _ w1.2.2 a1 (by rw [← hif, hdr, ifX_c, if_neg hsame, if_pos (by rw [List.length_drop]; omega), List.getD_eq_getElem?_getD, List.getElem?_drop, Nat.add_zero, ← List.getD_eq_getElem?_getD]; exact a2)
        · refine v_iload X (dk D_Rf_choose 9 rfl) rfl ?_
          refine v_if_ne (tgt := 86) X (dk D_Rf_choose 10 rfl) (by decide) (fun c16 => absurd rfl c16) (fun _ => ?_)
          refine v_iload_n X (dk D_Rf_choose 11 rfl) rfl ?_
          refine v_iload_n X (dk D_Rf_choose 12 rfl) rfl ?_
          refine v_isub X (dk D_Rf_choose 13 rfl) ?_
          rw [pk_sub (by omega)]
          refine v_iconst (v := 1) X (dk D_Rf_choose 14 rfl) (by decide) ?_
          refine v_iadd X (dk D_Rf_choose 15 rfl) ?_
          rw [nI_1, show f.2.1.length - (k + 1) + 1 = f.2.1.length - k by omega]
          refine v_istore (lb := [some (.ref 1003), some (.int (nI (na r))), some (.int (nI f.2.1.length)), some (.int (nI (k + 1))), some (.int 0), some (.int (nI (f.2.1.length - k)))]) X (dk D_Rf_choose 16 rfl) (by decide) rfl ?_
          refine v_aload_n X (dk D_Rf_choose 17 rfl) rfl ?_
          refine v_iload_n X (dk D_Rf_choose 18 rfl) rfl ?_
          refine v_iload_n X (dk D_Rf_choose 19 rfl) rfl ?_
          refine v_iload_n X (dk D_Rf_choose 20 rfl) rfl ?_
          refine v_iconst (v := 1) X (dk D_Rf_choose 21 rfl) (by decide) ?_
          refine v_iadd X (dk D_Rf_choose 22 rfl) ?_
          rw [nI_1]
          refine v_invV (As := [.int (nI (na r)), .int (nI (k + 1)), .int (nI (k + 1 + 1))]) (st := []) X (r_same l q (i := k) (j := k + 1) hS hC (by omega) (by omega)) (dk D_Rf_choose 23 rfl) G_Rf_321 K_Rf_same V_Rf_same rfl rfl (hS.lt (by decide)) rfl rfl (Nat.le_of_ble_eq_true rfl) (Nat.le_of_ble_eq_true rfl) (Nat.le_of_ble_eq_true rfl) (Nat.le_of_ble_eq_true rfl) (Nat.le_of_ble_eq_true rfl) ?_
          rintro v ws ⟨rfl, hws⟩
          rw [hws, if_neg hsame]
          show Vv _ _ _ _ _ _ _ _ _ _ _ _ _ _ _ [.int 0] (0, 0, g)
          refine v_if_eq (tgt := 52) X (dk D_Rf_choose 24 rfl) (by decide) (fun _ => ?_) (fun c35 => absurd rfl c35)
          refine v_iload X (dk D_Rf_choose 34 rfl) rfl ?_
          refine v_bipush (v := 6) X (dk D_Rf_choose 35 rfl) (by decide) ?_
          refine v_icmp_ge (tgt := 79) X (dk D_Rf_choose 36 rfl) (by decide) (fun c56 => absurd c56 (nI_ge (b := 6) (by omega) (by decide))) (fun _ => ?_)
          refine v_iload X (dk D_Rf_choose 37 rfl) rfl ?_
          refine v_iconst (v := 3) X (dk D_Rf_choose 38 rfl) (by decide) ?_
          refine v_icmp_le (tgt := 73) X (dk D_Rf_choose 39 rfl) (by decide) (fun _ => ?_) (fun c62 => absurd (nI_le (b := 3) (by omega) (by decide)) c62)
          refine v_iconst (v := 1) X (dk D_Rf_choose 46 rfl) (by decide) ?_
          refine v_istore (lb := [some (.ref 1003), some (.int (nI (na r))), some (.int (nI f.2.1.length)), some (.int (nI (k + 1))), some (.int 1), some (.int (nI (f.2.1.length - k)))]) X (dk D_Rf_choose 47 rfl) (by decide) rfl ?_
          refine v_goto (tgt := 83) X (dk D_Rf_choose 48 rfl) (by decide) ?_
          refine v_goto (tgt := 14) X (dk D_Rf_choose 53 rfl) (by decide) ?_
          exact fin _ _ g (rs.rf g _ _) (by rw [← hif, hdr, ifX_c, if_neg hsame, if_neg (by rw [List.length_drop]; omega), ifX_lt (by rw [List.length_drop]; omega), List.append_nil]; exact hE)
      · refine v_iload X (dk D_Rf_choose 9 rfl) rfl ?_
        refine v_if_ne (tgt := 86) X (dk D_Rf_choose 10 rfl) (by decide) (fun c16 => absurd rfl c16) (fun _ => ?_)
        refine v_iload_n X (dk D_Rf_choose 11 rfl) rfl ?_
        refine v_iload_n X (dk D_Rf_choose 12 rfl) rfl ?_
        refine v_isub X (dk D_Rf_choose 13 rfl) ?_
        rw [pk_sub (by omega)]
        refine v_iconst (v := 1) X (dk D_Rf_choose 14 rfl) (by decide) ?_
        refine v_iadd X (dk D_Rf_choose 15 rfl) ?_
        rw [nI_1, show f.2.1.length - (k + 1) + 1 = f.2.1.length - k by omega]
        refine v_istore (lb := [some (.ref 1003), some (.int (nI (na r))), some (.int (nI f.2.1.length)), some (.int (nI (k + 1))), some (.int 0), some (.int (nI (f.2.1.length - k)))]) X (dk D_Rf_choose 16 rfl) (by decide) rfl ?_
        refine v_aload_n X (dk D_Rf_choose 17 rfl) rfl ?_
        refine v_iload_n X (dk D_Rf_choose 18 rfl) rfl ?_
        refine v_iload_n X (dk D_Rf_choose 19 rfl) rfl ?_
        refine v_iload_n X (dk D_Rf_choose 20 rfl) rfl ?_
        refine v_iconst (v := 1) X (dk D_Rf_choose 21 rfl) (by decide) ?_
        refine v_iadd X (dk D_Rf_choose 22 rfl) ?_
        rw [nI_1]
        refine v_invV (As := [.int (nI (na r)), .int (nI (k + 1)), .int (nI (k + 1 + 1))]) (st := []) X (r_same l q (i := k) (j := k + 1) hS hC (by omega) (by omega)) (dk D_Rf_choose 23 rfl) G_Rf_321 K_Rf_same V_Rf_same rfl rfl (hS.lt (by decide)) rfl rfl (Nat.le_of_ble_eq_true rfl) (Nat.le_of_ble_eq_true rfl) (Nat.le_of_ble_eq_true rfl) (Nat.le_of_ble_eq_true rfl) (Nat.le_of_ble_eq_true rfl) ?_
        rintro v ws ⟨rfl, hws⟩
        rw [hws, if_neg hsame]
        show Vv _ _ _ _ _ _ _ _ _ _ _ _ _ _ _ [.int 0] (0, 0, g)
        refine v_if_eq (tgt := 52) X (dk D_Rf_choose 24 rfl) (by decide) (fun _ => ?_) (fun c35 => absurd rfl c35)
        refine v_iload X (dk D_Rf_choose 34 rfl) rfl ?_
        refine v_bipush (v := 6) X (dk D_Rf_choose 35 rfl) (by decide) ?_
        refine v_icmp_ge (tgt := 79) X (dk D_Rf_choose 36 rfl) (by decide) (fun _ => ?_) (fun c56 => absurd (nI_le (a := 6) (by omega) (by omega)) c56)
        refine v_iload_n X (dk D_Rf_choose 49 rfl) rfl ?_
        refine v_iconst (v := 3) X (dk D_Rf_choose 50 rfl) (by decide) ?_
        refine v_iadd X (dk D_Rf_choose 51 rfl) ?_
        rw [show nI (k + 1) + 3 = nI (k + 3 + 1) from by rw [show (3 : Int32) = nI 3 from rfl, nI_add]]
        refine v_istore_n (lb := [some (.ref 1003), some (.int (nI (na r))), some (.int (nI f.2.1.length)), some (.int (nI (k + 3 + 1))), some (.int 0), some (.int (nI (f.2.1.length - k)))]) X (dk D_Rf_choose 52 rfl) (by decide) rfl ?_
        refine v_goto (tgt := 14) X (dk D_Rf_choose 53 rfl) (by decide) ?_
        exact v_weak (la := [some (.ref 1003), some (.int (nI (na r))), some (.int (nI f.2.1.length)), some (.int (nI (k + 3 + 1))), some (.int 0), none]) ⟨rfl, rfl, rfl, rfl, rfl, trivial⟩ <| ih (k + 3) (by omega) (by omega) (by rw [← hif, hdr, ifX_c, if_neg hsame, if_neg (by rw [List.length_drop]; omega)])
  by_cases c : 3 ≤ f.2.1.length
  · refine v_iconst (v := nI (0 + 1)) X (dk D_Rf_choose 0 rfl) (by decide) ?_
    refine v_istore_n (lb := [some (.ref 1003), some (.int (nI (na r))), some (.int (nI f.2.1.length)), some (.int (nI (0 + 1))), none, none]) X (dk D_Rf_choose 1 rfl) (by decide) rfl ?_
    refine v_iload_n X (dk D_Rf_choose 2 rfl) rfl ?_
    refine v_iconst (v := 3) X (dk D_Rf_choose 3 rfl) (by decide) ?_
    refine v_icmp_ge (tgt := 11) X (dk D_Rf_choose 4 rfl) (by decide) (fun _ => ?_) (fun c4 => absurd (nI_le (a := 3) (by omega) (by omega)) c4)
    refine v_iconst (v := 0) X (dk D_Rf_choose 7 rfl) (by decide) ?_
    refine v_istore (lb := [some (.ref 1003), some (.int (nI (na r))), some (.int (nI f.2.1.length)), some (.int (nI (0 + 1))), some (.int 0), none]) X (dk D_Rf_choose 8 rfl) (by decide) rfl ?_
    exact loop f.2.1.length 0 (by omega) (by omega) rfl
  · refine v_iconst (v := nI (0 + 1)) X (dk D_Rf_choose 0 rfl) (by decide) ?_
    refine v_istore_n (lb := [some (.ref 1003), some (.int (nI (na r))), some (.int (nI f.2.1.length)), some (.int (nI (0 + 1))), none, none]) X (dk D_Rf_choose 1 rfl) (by decide) rfl ?_
    refine v_iload_n X (dk D_Rf_choose 2 rfl) rfl ?_
    refine v_iconst (v := 3) X (dk D_Rf_choose 3 rfl) (by decide) ?_
    refine v_icmp_ge (tgt := 11) X (dk D_Rf_choose 4 rfl) (by decide) (fun c4 => absurd c4 (nI_ge (b := 3) (by omega) (by decide))) (fun _ => ?_)
    refine v_iconst (v := 1) X (dk D_Rf_choose 5 rfl) (by decide) ?_
    refine v_goto (tgt := 12) X (dk D_Rf_choose 6 rfl) (by decide) ?_
    refine v_istore (lb := [some (.ref 1003), some (.int (nI (na r))), some (.int (nI f.2.1.length)), some (.int (nI (0 + 1))), some (.int 1), none]) X (dk D_Rf_choose 8 rfl) (by decide) rfl ?_
    exact fin2 _ (by rw [ifX_lt (by omega), List.append_nil]; exact hE)
