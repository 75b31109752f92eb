/-! the reference: dnl, divert, undivert, changequote -/
theorem tk_stop {I : Ip} (h : tkV I < 0) : tkI I = I := by
  obtain ⟨u, m, f, n⟩ := I
  cases u with
  | nil => rfl
  | cons x u =>
    cases f with
    | zero => rfl
    | succ f => exact absurd h (Int32.not_lt.mpr (and255_pos x))
theorem drL_c {d : Nat} {I : Ip} : drL (d + 1) I = if I.1 = [] then (0, I) else if tkV I < 0 then (31, I) else if tkV I = 10 then (0, tkI I) else drL d (tkI I) := rfl
/-- as far as the bytes reach -/
theorem drL_e : ∀ {d e : Nat} {I : Ip}, I.1.length ≤ d → I.1.length ≤ e → drL d I = drL e I
  | 0, 0, _, _, _ => rfl
  | 0, e + 1, I, h, _ => by rw [drL_c, if_pos (List.eq_nil_of_length_eq_zero (by omega))]; rfl
  | d + 1, 0, I, _, h => by rw [drL_c, if_pos (List.eq_nil_of_length_eq_zero (by omega))]; rfl
  | d + 1, e + 1, I, h1, h2 => by
    rw [drL_c, drL_c]
    by_cases c1 : I.1 = []
    · rw [if_pos c1, if_pos c1]
    · rw [if_neg c1, if_neg c1]
      by_cases c2 : tkV I < 0
      · rw [if_pos c2, if_pos c2]
      · rw [if_neg c2, if_neg c2]
        by_cases c3 : tkV I = 10
        · rw [if_pos c3, if_pos c3]
        · rw [if_neg c3, if_neg c3]
          obtain ⟨x, u, a, b, c⟩ := tk_yes (Int32.not_lt.mp c2)
          rw [a] at h1 h2
          rw [List.length_cons] at h1 h2
          exact drL_e (by rw [c]; omega) (by rw [c]; omega)
set_option maxHeartbeats 4000000 in
set_option maxRecDepth 100000 in
theorem r_actDnl (l : Launch) (q : ev_T) {fu : Nat} {f : Fr} {r : List Fr} {I : Ip} {g : mu_T} (hS : Shp g) (hI : RQ g fu I) (he : gI g 1003 2 = 0) : Ctr l q M_Rf_actOnInput 3 [.ref 1003, .int 14, .int (nI (na r)), .int (nI f.2.1.length)] (0, 0, g) (fun v w => v = none ∧ rs g w.2.2 [2, 3, 4, 8, 9, 10, 11] [] ∧ RQ w.2.2 fu (drL 32768 I).2 ∧ gI w.2.2 1003 2 = (drL 32768 I).1 ∧ (¬ (drL 32768 I).1 = 0 → gI w.2.2 1003 3 = nI ((drL 32768 I).2.2.2.2 + 1))) := by

  refine Ctr.mk (lb := [some (.ref 1003), some (.int 14), some (.int (nI (na r))), some (.int (nI f.2.1.length)), none, none]) (by decide +kernel) (Nat.le_of_ble_eq_true rfl) rfl rfl ?_
  intro pp ee ss mm aa bb mt cd X hrt hlk hnm
  have ex0 : ∀ (h : mu_T) (J : Ip), rs g h [2, 3, 4, 8, 9, 10, 11] [] → RQ h fu J → gI h 1003 2 = 0 → (0, J) = (drL 32768 I) → Vv pp l ee (rmT 3 0 0) ss mm aa bb mt cd 6 q (MQ bb (Qw q (fun v w => v = none ∧ rs g w.2.2 [2, 3, 4, 8, 9, 10, 11] [] ∧ RQ w.2.2 fu (drL 32768 I).2 ∧ gI w.2.2 1003 2 = (drL 32768 I).1 ∧ (¬ (drL 32768 I).1 = 0 → gI w.2.2 1003 3 = nI ((drL 32768 I).2.2.2.2 + 1)))) aa ss 0 0 (fun a => q.1 ≤ a)) 9 [some (.ref 1003), some (.int 14), some (.int (nI (na r))), some (.int (nI f.2.1.length)), some (.int 0), none] [] (0, 0, h) := by
    intro h J hs hJ he0 hdr
    have hSh := hs.S hS
    refine v_iload X (dk D_Rf_actOnInput 5 rfl) rfl ?_
    refine v_if_eq (tgt := 48) X (dk D_Rf_actOnInput 6 rfl) (by decide) (fun _ => ?_) (fun c11 => absurd rfl c11)
    refine v_goto (tgt := 209) X (dk D_Rf_actOnInput 23 rfl) (by decide) ?_
    exact v_vret X hlk hrt (dk D_Rf_actOnInput 101 rfl) ⟨rfl, hs, by rw [← hdr]; exact hJ, by rw [← hdr]; exact he0, fun z => by rw [← hdr] at z; exact absurd rfl z⟩
  have ex31 : ∀ (h : mu_T) (J : Ip), rs g h [2, 3, 4, 8, 9, 10, 11] [] → RQ h fu J → ¬ J.1 = [] → gI h 1003 2 = 31 → gI h 1003 3 = nI (J.2.2.2 + 1) → (31, J) = (drL 32768 I) → Vv pp l ee (rmT 3 0 0) ss mm aa bb mt cd 6 q (MQ bb (Qw q (fun v w => v = none ∧ rs g w.2.2 [2, 3, 4, 8, 9, 10, 11] [] ∧ RQ w.2.2 fu (drL 32768 I).2 ∧ gI w.2.2 1003 2 = (drL 32768 I).1 ∧ (¬ (drL 32768 I).1 = 0 → gI w.2.2 1003 3 = nI ((drL 32768 I).2.2.2.2 + 1)))) aa ss 0 0 (fun a => q.1 ≤ a)) 9 [some (.ref 1003), some (.int 14), some (.int (nI (na r))), some (.int (nI f.2.1.length)), some (.int 1), none] [] (0, 0, h) := by
    intro h J hs hJ hne he1 hl1 hdr
    have hSh := hs.S hS
    have hat : atL J.1 (nI 0) = J.1.getD 0 0 &&& 255 := atL_nI (List.length_pos_iff.mpr hne) (by have := hJ.2.1; omega)
    refine v_iload X (dk D_Rf_actOnInput 5 rfl) rfl ?_
    refine v_if_eq (tgt := 48) X (dk D_Rf_actOnInput 6 rfl) (by decide) (fun c11 => absurd c11 (by decide)) (fun _ => ?_)
    refine v_aload_n X (dk D_Rf_actOnInput 7 rfl) rfl ?_
    refine v_iconst (v := nI 0) X (dk D_Rf_actOnInput 8 rfl) (by decide) ?_
    refine v_invV (As := [.int (nI 0)]) (st := []) X (r_peek l q (k := 0) hSh hJ (by decide)) (dk D_Rf_actOnInput 9 rfl) G_Rf_101 K_Rf_peek V_Rf_peek rfl rfl (hSh.lt (by decide)) rfl rfl (Nat.le_of_ble_eq_true rfl) (Nat.le_of_ble_eq_true rfl) (Nat.le_of_ble_eq_true rfl) (Nat.le_of_ble_eq_true rfl) (Nat.le_of_ble_eq_true rfl) ?_
    rintro v ws ⟨rfl, hws⟩
    rw [hws]
    show Vv _ _ _ _ _ _ _ _ _ _ _ _ _ _ _ [.int (atL J.1 (nI 0))] (0, 0, h)
    refine v_if_lt (tgt := 48) X (dk D_Rf_actOnInput 10 rfl) (by decide) (fun c19 => absurd c19 (by rw [hat]; exact Int32.not_lt.mpr (and255_pos _))) (fun _ => ?_)
    refine v_aload_n X (dk D_Rf_actOnInput 11 rfl) rfl ?_
    refine v_getI X (dk D_Rf_actOnInput 12 rfl) F_Rf_72 rfl rfl (hSh.lt (by decide)) ?_
    refine v_if_ne (tgt := 48) X (dk D_Rf_actOnInput 13 rfl) (by decide) (fun _ => ?_) (fun c26 => absurd c26 (by rw [he1]; decide))
    refine v_goto (tgt := 209) X (dk D_Rf_actOnInput 23 rfl) (by decide) ?_
    exact v_vret X hlk hrt (dk D_Rf_actOnInput 101 rfl) ⟨rfl, hs, by rw [← hdr]; exact hJ, by rw [← hdr]; exact he1, fun _ => by rw [← hdr]; exact hl1⟩
  have loop : ∀ (d : Nat) (h : mu_T) (J : Ip), rs g h [2, 3, 4, 8, 9, 10, 11] [] → RQ h fu J → gI h 1003 2 = 0 → J.1.length ≤ d → drL d J = (drL 32768 I) → Vv pp l ee (rmT 3 0 0) ss mm aa bb mt cd 6 q (MQ bb (Qw q (fun v w => v = none ∧ rs g w.2.2 [2, 3, 4, 8, 9, 10, 11] [] ∧ RQ w.2.2 fu (drL 32768 I).2 ∧ gI w.2.2 1003 2 = (drL 32768 I).1 ∧ (¬ (drL 32768 I).1 = 0 → gI w.2.2 1003 3 = nI ((drL 32768 I).2.2.2.2 + 1)))) aa ss 0 0 (fun a => q.1 ≤ a)) 9 [some (.ref 1003), some (.int 14), some (.int (nI (na r))), some (.int (nI f.2.1.length)), some (.int 1), none] [] (0, 0, h) := by
    intro d
    induction d with
    | zero =>
      intro h J hs hJ he0 hd hdr
      have hSh := hs.S hS
      have hnil : J.1 = [] := List.eq_nil_of_length_eq_zero (by omega)
      refine v_iload X (dk D_Rf_actOnInput 5 rfl) rfl ?_
      refine v_if_eq (tgt := 48) X (dk D_Rf_actOnInput 6 rfl) (by decide) (fun c11 => absurd c11 (by decide)) (fun _ => ?_)
      refine v_aload_n X (dk D_Rf_actOnInput 7 rfl) rfl ?_
      refine v_iconst (v := nI 0) X (dk D_Rf_actOnInput 8 rfl) (by decide) ?_
      refine v_invV (As := [.int (nI 0)]) (st := []) X (r_peek l q (k := 0) hSh hJ (by decide)) (dk D_Rf_actOnInput 9 rfl) G_Rf_101 K_Rf_peek V_Rf_peek rfl rfl (hSh.lt (by decide)) rfl rfl (Nat.le_of_ble_eq_true rfl) (Nat.le_of_ble_eq_true rfl) (Nat.le_of_ble_eq_true rfl) (Nat.le_of_ble_eq_true rfl) (Nat.le_of_ble_eq_true rfl) ?_
      rintro v ws ⟨rfl, hws⟩
      rw [hws]
      show Vv _ _ _ _ _ _ _ _ _ _ _ _ _ _ _ [.int (atL J.1 (nI 0))] (0, 0, h)
      refine v_if_lt (tgt := 48) X (dk D_Rf_actOnInput 10 rfl) (by decide) (fun _ => ?_) (fun c19 => absurd (by rw [atL_out (by rw [hnil]; exact Nat.le_refl _) (by decide)]; decide) c19)
      refine v_goto (tgt := 209) X (dk D_Rf_actOnInput 23 rfl) (by decide) ?_
      exact v_vret X hlk hrt (dk D_Rf_actOnInput 101 rfl) ⟨rfl, hs, by rw [← hdr]; exact hJ, by rw [← hdr]; exact he0, fun z => by rw [← hdr] at z; exact absurd rfl z⟩
    | succ d ih =>
      intro h J hs hJ he0 hd hdr
      have hSh := hs.S hS
      by_cases hnil : J.1 = []
      · rw [drL_c, if_pos hnil] at hdr
        refine v_iload X (dk D_Rf_actOnInput 5 rfl) rfl ?_
        refine v_if_eq (tgt := 48) X (dk D_Rf_actOnInput 6 rfl) (by decide) (fun c11 => absurd c11 (by decide)) (fun _ => ?_)
        refine v_aload_n X (dk D_Rf_actOnInput 7 rfl) rfl ?_
        refine v_iconst (v := nI 0) X (dk D_Rf_actOnInput 8 rfl) (by decide) ?_
        refine v_invV (As := [.int (nI 0)]) (st := []) X (r_peek l q (k := 0) hSh hJ (by decide)) (dk D_Rf_actOnInput 9 rfl) G_Rf_101 K_Rf_peek V_Rf_peek rfl rfl (hSh.lt (by decide)) rfl rfl (Nat.le_of_ble_eq_true rfl) (Nat.le_of_ble_eq_true rfl) (Nat.le_of_ble_eq_true rfl) (Nat.le_of_ble_eq_true rfl) (Nat.le_of_ble_eq_true rfl) ?_
        rintro v ws ⟨rfl, hws⟩
        rw [hws]
        show Vv _ _ _ _ _ _ _ _ _ _ _ _ _ _ _ [.int (atL J.1 (nI 0))] (0, 0, h)
        refine v_if_lt (tgt := 48) X (dk D_Rf_actOnInput 10 rfl) (by decide) (fun _ => ?_) (fun c19 => absurd (by rw [atL_out (by rw [hnil]; exact Nat.le_refl _) (by decide)]; decide) c19)
        refine v_goto (tgt := 209) X (dk D_Rf_actOnInput 23 rfl) (by decide) ?_
        exact v_vret X hlk hrt (dk D_Rf_actOnInput 101 rfl) ⟨rfl, hs, by rw [← hdr]; exact hJ, by rw [← hdr]; exact he0, fun z => by rw [← hdr] at z; exact absurd rfl z⟩
      have hne := hnil
      rw [drL_c, if_neg hnil] at hdr
      have hat : atL J.1 (nI 0) = J.1.getD 0 0 &&& 255 := atL_nI (List.length_pos_iff.mpr hne) (by have := hJ.2.1; omega)
      by_cases cneg : tkV J < 0
      · rw [if_pos cneg] at hdr
        have c10 : ¬ tkV J = 10 := fun z => absurd cneg (by rw [z]; decide)
        refine v_iload X (dk D_Rf_actOnInput 5 rfl) rfl ?_
        refine v_if_eq (tgt := 48) X (dk D_Rf_actOnInput 6 rfl) (by decide) (fun c11 => absurd c11 (by decide)) (fun _ => ?_)
        refine v_aload_n X (dk D_Rf_actOnInput 7 rfl) rfl ?_
        refine v_iconst (v := nI 0) X (dk D_Rf_actOnInput 8 rfl) (by decide) ?_
        refine v_invV (As := [.int (nI 0)]) (st := []) X (r_peek l q (k := 0) hSh hJ (by decide)) (dk D_Rf_actOnInput 9 rfl) G_Rf_101 K_Rf_peek V_Rf_peek rfl rfl (hSh.lt (by decide)) rfl rfl (Nat.le_of_ble_eq_true rfl) (Nat.le_of_ble_eq_true rfl) (Nat.le_of_ble_eq_true rfl) (Nat.le_of_ble_eq_true rfl) (Nat.le_of_ble_eq_true rfl) ?_
        rintro v ws ⟨rfl, hws⟩
        rw [hws]
        show Vv _ _ _ _ _ _ _ _ _ _ _ _ _ _ _ [.int (atL J.1 (nI 0))] (0, 0, h)
        refine v_if_lt (tgt := 48) X (dk D_Rf_actOnInput 10 rfl) (by decide) (fun c19 => absurd c19 (by rw [hat]; exact Int32.not_lt.mpr (and255_pos _))) (fun _ => ?_)
        refine v_aload_n X (dk D_Rf_actOnInput 11 rfl) rfl ?_
        refine v_getI X (dk D_Rf_actOnInput 12 rfl) F_Rf_72 rfl rfl (hSh.lt (by decide)) ?_
        refine v_if_ne (tgt := 48) X (dk D_Rf_actOnInput 13 rfl) (by decide) (fun c26 => absurd he0 c26) (fun _ => ?_)
        refine v_aload_n X (dk D_Rf_actOnInput 14 rfl) rfl ?_
        refine v_invV (As := []) (st := []) X (r_take l q hSh hJ hne he0) (dk D_Rf_actOnInput 15 rfl) G_Rf_105 K_Rf_take V_Rf_take rfl rfl (hSh.lt (by decide)) rfl rfl (Nat.le_of_ble_eq_true rfl) (Nat.le_of_ble_eq_true rfl) (Nat.le_of_ble_eq_true rfl) (Nat.le_of_ble_eq_true rfl) (Nat.le_of_ble_eq_true rfl) ?_
        rintro v w1 ⟨rfl, a1, a2, a3, a4⟩
        show Vv _ _ _ _ _ _ _ _ _ _ _ _ _ _ _ [.int (tkV J)] (0, 0, w1.2.2)
        refine v_bipush (v := 10) X (dk D_Rf_actOnInput 16 rfl) (by decide) ?_
        refine v_icmp_eq (tgt := 42) X (dk D_Rf_actOnInput 17 rfl) (by decide) (fun c35 => absurd c35 c10) (fun _ => ?_)
        refine v_iconst (v := 1) X (dk D_Rf_actOnInput 18 rfl) (by decide) ?_
        refine v_goto (tgt := 43) X (dk D_Rf_actOnInput 19 rfl) (by decide) ?_
        refine v_istore (lb := [some (.ref 1003), some (.int 14), some (.int (nI (na r))), some (.int (nI f.2.1.length)), some (.int 1), none]) X (dk D_Rf_actOnInput 21 rfl) (by decide) rfl ?_
        refine v_goto (tgt := 9) X (dk D_Rf_actOnInput 22 rfl) (by decide) ?_
        exact ex31 w1.2.2 J (hs.tr a1) (by rw [tk_stop cneg] at a2; exact a2) hne (by rw [a3, if_pos cneg]) (a4 cneg) hdr
      rw [if_neg cneg] at hdr
      obtain ⟨tx, tu, ta, tb, tc⟩ := tk_yes (Int32.not_lt.mp cneg)
      rw [ta, List.length_cons] at hd
      by_cases c10 : tkV J = 10
      · rw [if_pos c10] at hdr
        refine v_iload X (dk D_Rf_actOnInput 5 rfl) rfl ?_
        refine v_if_eq (tgt := 48) X (dk D_Rf_actOnInput 6 rfl) (by decide) (fun c11 => absurd c11 (by decide)) (fun _ => ?_)
        refine v_aload_n X (dk D_Rf_actOnInput 7 rfl) rfl ?_
        refine v_iconst (v := nI 0) X (dk D_Rf_actOnInput 8 rfl) (by decide) ?_
        refine v_invV (As := [.int (nI 0)]) (st := []) X (r_peek l q (k := 0) hSh hJ (by decide)) (dk D_Rf_actOnInput 9 rfl) G_Rf_101 K_Rf_peek V_Rf_peek rfl rfl (hSh.lt (by decide)) rfl rfl (Nat.le_of_ble_eq_true rfl) (Nat.le_of_ble_eq_true rfl) (Nat.le_of_ble_eq_true rfl) (Nat.le_of_ble_eq_true rfl) (Nat.le_of_ble_eq_true rfl) ?_
        rintro v ws ⟨rfl, hws⟩
        rw [hws]
        show Vv _ _ _ _ _ _ _ _ _ _ _ _ _ _ _ [.int (atL J.1 (nI 0))] (0, 0, h)
        refine v_if_lt (tgt := 48) X (dk D_Rf_actOnInput 10 rfl) (by decide) (fun c19 => absurd c19 (by rw [hat]; exact Int32.not_lt.mpr (and255_pos _))) (fun _ => ?_)
        refine v_aload_n X (dk D_Rf_actOnInput 11 rfl) rfl ?_
        refine v_getI X (dk D_Rf_actOnInput 12 rfl) F_Rf_72 rfl rfl (hSh.lt (by decide)) ?_
        refine v_if_ne (tgt := 48) X (dk D_Rf_actOnInput 13 rfl) (by decide) (fun c26 => absurd he0 c26) (fun _ => ?_)
        refine v_aload_n X (dk D_Rf_actOnInput 14 rfl) rfl ?_
        refine v_invV (As := []) (st := []) X (r_take l q hSh hJ hne he0) (dk D_Rf_actOnInput 15 rfl) G_Rf_105 K_Rf_take V_Rf_take rfl rfl (hSh.lt (by decide)) rfl rfl (Nat.le_of_ble_eq_true rfl) (Nat.le_of_ble_eq_true rfl) (Nat.le_of_ble_eq_true rfl) (Nat.le_of_ble_eq_true rfl) (Nat.le_of_ble_eq_true rfl) ?_
        rintro v w1 ⟨rfl, a1, a2, a3, a4⟩
        show Vv _ _ _ _ _ _ _ _ _ _ _ _ _ _ _ [.int (tkV J)] (0, 0, w1.2.2)
        refine v_bipush (v := 10) X (dk D_Rf_actOnInput 16 rfl) (by decide) ?_
        refine v_icmp_eq (tgt := 42) X (dk D_Rf_actOnInput 17 rfl) (by decide) (fun _ => ?_) (fun c35 => absurd c10 c35)
        refine v_iconst (v := 0) X (dk D_Rf_actOnInput 20 rfl) (by decide) ?_
        refine v_istore (lb := [some (.ref 1003), some (.int 14), some (.int (nI (na r))), some (.int (nI f.2.1.length)), some (.int 0), none]) X (dk D_Rf_actOnInput 21 rfl) (by decide) rfl ?_
        refine v_goto (tgt := 9) X (dk D_Rf_actOnInput 22 rfl) (by decide) ?_
        exact ex0 w1.2.2 (tkI J) (hs.tr a1) a2 (by rw [a3, if_neg cneg]) hdr
      · rw [if_neg c10] at hdr
        refine v_iload X (dk D_Rf_actOnInput 5 rfl) rfl ?_
        refine v_if_eq (tgt := 48) X (dk D_Rf_actOnInput 6 rfl) (by decide) (fun c11 => absurd c11 (by decide)) (fun _ => ?_)
        refine v_aload_n X (dk D_Rf_actOnInput 7 rfl) rfl ?_
        refine v_iconst (v := nI 0) X (dk D_Rf_actOnInput 8 rfl) (by decide) ?_
        refine v_invV (As := [.int (nI 0)]) (st := []) X (r_peek l q (k := 0) hSh hJ (by decide)) (dk D_Rf_actOnInput 9 rfl) G_Rf_101 K_Rf_peek V_Rf_peek rfl rfl (hSh.lt (by decide)) rfl rfl (Nat.le_of_ble_eq_true rfl) (Nat.le_of_ble_eq_true rfl) (Nat.le_of_ble_eq_true rfl) (Nat.le_of_ble_eq_true rfl) (Nat.le_of_ble_eq_true rfl) ?_
        rintro v ws ⟨rfl, hws⟩
        rw [hws]
        show Vv _ _ _ _ _ _ _ _ _ _ _ _ _ _ _ [.int (atL J.1 (nI 0))] (0, 0, h)
        refine v_if_lt (tgt := 48) X (dk D_Rf_actOnInput 10 rfl) (by decide) (fun c19 => absurd c19 (by rw [hat]; exact Int32.not_lt.mpr (and255_pos _))) (fun _ => ?_)
        refine v_aload_n X (dk D_Rf_actOnInput 11 rfl) rfl ?_
        refine v_getI X (dk D_Rf_actOnInput 12 rfl) F_Rf_72 rfl rfl (hSh.lt (by decide)) ?_
        refine v_if_ne (tgt := 48) X (dk D_Rf_actOnInput 13 rfl) (by decide) (fun c26 => absurd he0 c26) (fun _ => ?_)
        refine v_aload_n X (dk D_Rf_actOnInput 14 rfl) rfl ?_
        refine v_invV (As := []) (st := []) X (r_take l q hSh hJ hne he0) (dk D_Rf_actOnInput 15 rfl) G_Rf_105 K_Rf_take V_Rf_take rfl rfl (hSh.lt (by decide)) rfl rfl (Nat.le_of_ble_eq_true rfl) (Nat.le_of_ble_eq_true rfl) (Nat.le_of_ble_eq_true rfl) (Nat.le_of_ble_eq_true rfl) (Nat.le_of_ble_eq_true rfl) ?_
        rintro v w1 ⟨rfl, a1, a2, a3, a4⟩
        show Vv _ _ _ _ _ _ _ _ _ _ _ _ _ _ _ [.int (tkV J)] (0, 0, w1.2.2)
        refine v_bipush (v := 10) X (dk D_Rf_actOnInput 16 rfl) (by decide) ?_
        refine v_icmp_eq (tgt := 42) X (dk D_Rf_actOnInput 17 rfl) (by decide) (fun c35 => absurd c35 c10) (fun _ => ?_)
        refine v_iconst (v := 1) X (dk D_Rf_actOnInput 18 rfl) (by decide) ?_
        refine v_goto (tgt := 43) X (dk D_Rf_actOnInput 19 rfl) (by decide) ?_
        refine v_istore (lb := [some (.ref 1003), some (.int 14), some (.int (nI (na r))), some (.int (nI f.2.1.length)), some (.int 1), none]) X (dk D_Rf_actOnInput 21 rfl) (by decide) rfl ?_
        refine v_goto (tgt := 9) X (dk D_Rf_actOnInput 22 rfl) (by decide) ?_
        exact ih w1.2.2 (tkI J) (hs.tr a1) a2 (by rw [a3, if_neg cneg]) (by rw [tc]; omega) hdr
  refine v_iload_n X (dk D_Rf_actOnInput 0 rfl) rfl ?_
  refine v_bipush (v := 14) X (dk D_Rf_actOnInput 1 rfl) (by decide) ?_
  refine v_icmp_ne (tgt := 51) X (dk D_Rf_actOnInput 2 rfl) (by decide) (fun c3 => absurd rfl c3) (fun _ => ?_)
  refine v_iconst (v := 1) X (dk D_Rf_actOnInput 3 rfl) (by decide) ?_
  refine v_istore (lb := [some (.ref 1003), some (.int 14), some (.int (nI (na r))), some (.int (nI f.2.1.length)), some (.int 1), none]) X (dk D_Rf_actOnInput 4 rfl) (by decide) rfl ?_
  exact loop I.1.length g I (rs.rf g _ _) hI he (Nat.le_refl _) (drL_e (Nat.le_refl _) hI.2.1)
def dvE : Option Int32 → Int32
  | none => 36
  | some v => if v < 10 then 0 else 36
def dvC (cur : Int32) : Option Int32 → Int32
  | none => cur
  | some v => if v < 10 then (if v < 0 then -1 else v) else cur
theorem DVR_cur {g : mu_T} {cur x : Int32} {D : Nat → List Int32} (h : DVR g cur D) (hx : x = -1 ∨ ∃ c, c < 10 ∧ x = nI c) : DVR (xI g 1003 33 x) x D := ⟨gI_eq _ _ _ _, hx, (gI_nk (by decide)).trans h.2.2.1, h.2.2.2.1, fun i hi => ⟨(gI_na (by decide)).trans (h.2.2.2.2 i hi).1, fun j hj => (gI_na (by decide)).trans ((h.2.2.2.2 i hi).2 j hj)⟩⟩
theorem lt10 {y : Int32} (h : y ≤ 9) : y < 10 := by
  have := Int32.le_iff_toInt_le.mp h
  exact Int32.lt_iff_toInt_lt.mpr (by rw [show (9 : Int32).toInt = 9 from rfl] at this; rw [show (10 : Int32).toInt = 10 from rfl]; omega)
theorem le9 {y : Int32} (h : y < 10) : y ≤ 9 := by
  have := Int32.lt_iff_toInt_lt.mp h
  exact Int32.le_iff_toInt_le.mpr (by rw [show (10 : Int32).toInt = 10 from rfl] at this; rw [show (9 : Int32).toInt = 9 from rfl]; omega)
set_option maxHeartbeats 4000000 in
set_option maxRecDepth 100000 in
theorem r_actDivert (l : Launch) (q : ev_T) {f : Fr} {r : List Fr} {cur : Int32} {D : Nat → List Int32} {g : mu_T} (hS : Shp g) (he : gI g 1003 2 = 0) (hC : AC g f r) (hD : DVR g cur D) : Ctr l q M_Rf_actOnInput 3 [.ref 1003, .int 15, .int (nI (na r)), .int (nI f.2.1.length)] (0, 0, g) (fun v w => v = none ∧ rs g w.2.2 [2, 3, 33] [] ∧ gI w.2.2 1003 2 = (dvE (nmX (f.2.1.getD 0 []))) ∧ (¬ (dvE (nmX (f.2.1.getD 0 []))) = 0 → gI w.2.2 1003 3 = gI g 1003 10) ∧ ((dvE (nmX (f.2.1.getD 0 []))) = 0 → DVR w.2.2 (dvC cur (nmX (f.2.1.getD 0 []))) D)) := by
  have hS3 : Shp (xI (xI g 1003 2 36) 1003 3 (gI g 1003 10)) := (show rs g (xI (xI g 1003 2 36) 1003 3 (gI g 1003 10)) [2, 3] [] from ((rs.rf g _ _).fI (by decide)).fI (by decide)).S hS
  refine Ctr.mk (lb := [some (.ref 1003), some (.int 15), some (.int (nI (na r))), some (.int (nI f.2.1.length)), none, none]) (by decide +kernel) (Nat.le_of_ble_eq_true rfl) rfl rfl ?_
  intro pp ee ss mm aa bb mt cd X hrt hlk hnm
  rcases on_or (nmX (f.2.1.getD 0 [])) with h1 | ⟨y, h1⟩
  · refine v_iload_n X (dk D_Rf_actOnInput 0 rfl) rfl ?_
    refine v_bipush (v := 14) X (dk D_Rf_actOnInput 1 rfl) (by decide) ?_
    refine v_icmp_ne (tgt := 51) X (dk D_Rf_actOnInput 2 rfl) (by decide) (fun _ => ?_) (fun c3 => absurd c3 (by decide))
    refine v_iload_n X (dk D_Rf_actOnInput 24 rfl) rfl ?_
    refine v_bipush (v := 15) X (dk D_Rf_actOnInput 25 rfl) (by decide) ?_
    refine v_icmp_ne (tgt := 103) X (dk D_Rf_actOnInput 26 rfl) (by decide) (fun c54 => absurd rfl c54) (fun _ => ?_)
    refine v_aload_n X (dk D_Rf_actOnInput 27 rfl) rfl ?_
    refine v_iload_n X (dk D_Rf_actOnInput 28 rfl) rfl ?_
    refine v_iconst (v := nI (0 + 1)) X (dk D_Rf_actOnInput 29 rfl) (by decide) ?_
    refine v_invV (As := [.int (nI (na r)), .int (nI (0 + 1))]) (st := []) X (r_number l q (i := 0) hS hC (by decide)) (dk D_Rf_actOnInput 30 rfl) G_Rf_299 K_Rf_number V_Rf_number rfl rfl (hS.lt (by decide)) rfl rfl (Nat.le_of_ble_eq_true rfl) (Nat.le_of_ble_eq_true rfl) (Nat.le_of_ble_eq_true rfl) (Nat.le_of_ble_eq_true rfl) (Nat.le_of_ble_eq_true rfl) ?_
    rintro v w1 ⟨x1, rfl, p1, p2⟩
    rw [p2 h1, if_pos he]
    show Vv _ _ _ _ _ _ _ _ _ _ _ _ _ _ _ [.int x1] (0, 0, (xI (xI g 1003 2 36) 1003 3 (gI g 1003 10)))
    refine v_istore (lb := [some (.ref 1003), some (.int 15), some (.int (nI (na r))), some (.int (nI f.2.1.length)), some (.int x1), none]) X (dk D_Rf_actOnInput 31 rfl) (by decide) rfl ?_
    refine v_aload_n X (dk D_Rf_actOnInput 32 rfl) rfl ?_
    refine v_getI X (dk D_Rf_actOnInput 33 rfl) F_Rf_72 rfl rfl (hS3.lt (by decide)) ?_
    refine v_if_ne (tgt := 85) X (dk D_Rf_actOnInput 34 rfl) (by decide) (fun _ => ?_) (fun c69 => absurd c69 (by rw [gI_nk (by decide), gI_eq]; decide))
    refine v_aload_n X (dk D_Rf_actOnInput 41 rfl) rfl ?_
    refine v_iload X (dk D_Rf_actOnInput 42 rfl) rfl ?_
    refine v_if_ge (tgt := 95) X (dk D_Rf_actOnInput 43 rfl) (by decide) (fun c88 => ?_) (fun c88 => ?_)
    · refine v_iload X (dk D_Rf_actOnInput 46 rfl) rfl ?_
      refine v_putI X (dk D_Rf_actOnInput 47 rfl) F_Rf_220 CK_Rf rfl rfl (hS3.lt (by decide)) rfl rfl ?_
      refine v_goto (tgt := 209) X (dk D_Rf_actOnInput 48 rfl) (by decide) ?_
      exact v_vret X hlk hrt (dk D_Rf_actOnInput 101 rfl) ⟨rfl, ((((rs.rf g _ _).fI (by decide)).fI (by decide)).fI (by decide)), (gI_nk (by decide)).trans ((gI_nk (by decide)).trans ((gI_eq _ _ _ _).trans (by rw [h1]; rfl))), fun _ => (gI_nk (by decide)).trans (gI_eq _ _ _ _), fun z => by rw [h1] at z; exact absurd z (by decide)⟩
    · refine v_iconst (v := -1) X (dk D_Rf_actOnInput 44 rfl) (by decide) ?_
      refine v_goto (tgt := 97) X (dk D_Rf_actOnInput 45 rfl) (by decide) ?_
      refine v_putI X (dk D_Rf_actOnInput 47 rfl) F_Rf_220 CK_Rf rfl rfl (hS3.lt (by decide)) rfl rfl ?_
      refine v_goto (tgt := 209) X (dk D_Rf_actOnInput 48 rfl) (by decide) ?_
      exact v_vret X hlk hrt (dk D_Rf_actOnInput 101 rfl) ⟨rfl, ((((rs.rf g _ _).fI (by decide)).fI (by decide)).fI (by decide)), (gI_nk (by decide)).trans ((gI_nk (by decide)).trans ((gI_eq _ _ _ _).trans (by rw [h1]; rfl))), fun _ => (gI_nk (by decide)).trans (gI_eq _ _ _ _), fun z => by rw [h1] at z; exact absurd z (by decide)⟩
  by_cases cb : ¬ y < 10
  · refine v_iload_n X (dk D_Rf_actOnInput 0 rfl) rfl ?_
    refine v_bipush (v := 14) X (dk D_Rf_actOnInput 1 rfl) (by decide) ?_
    refine v_icmp_ne (tgt := 51) X (dk D_Rf_actOnInput 2 rfl) (by decide) (fun _ => ?_) (fun c3 => absurd c3 (by decide))
    refine v_iload_n X (dk D_Rf_actOnInput 24 rfl) rfl ?_
    refine v_bipush (v := 15) X (dk D_Rf_actOnInput 25 rfl) (by decide) ?_
    refine v_icmp_ne (tgt := 103) X (dk D_Rf_actOnInput 26 rfl) (by decide) (fun c54 => absurd rfl c54) (fun _ => ?_)
    refine v_aload_n X (dk D_Rf_actOnInput 27 rfl) rfl ?_
    refine v_iload_n X (dk D_Rf_actOnInput 28 rfl) rfl ?_
    refine v_iconst (v := nI (0 + 1)) X (dk D_Rf_actOnInput 29 rfl) (by decide) ?_
    refine v_invV (As := [.int (nI (na r)), .int (nI (0 + 1))]) (st := []) X (r_number l q (i := 0) hS hC (by decide)) (dk D_Rf_actOnInput 30 rfl) G_Rf_299 K_Rf_number V_Rf_number rfl rfl (hS.lt (by decide)) rfl rfl (Nat.le_of_ble_eq_true rfl) (Nat.le_of_ble_eq_true rfl) (Nat.le_of_ble_eq_true rfl) (Nat.le_of_ble_eq_true rfl) (Nat.le_of_ble_eq_true rfl) ?_
    rintro v w1 ⟨x1, rfl, p1, p2⟩
    obtain ⟨e1, hw⟩ := p1 _ h1
    rw [hw, e1]
    show Vv _ _ _ _ _ _ _ _ _ _ _ _ _ _ _ [.int y] (0, 0, g)
    refine v_istore (lb := [some (.ref 1003), some (.int 15), some (.int (nI (na r))), some (.int (nI f.2.1.length)), some (.int y), none]) X (dk D_Rf_actOnInput 31 rfl) (by decide) rfl ?_
    refine v_aload_n X (dk D_Rf_actOnInput 32 rfl) rfl ?_
    refine v_getI X (dk D_Rf_actOnInput 33 rfl) F_Rf_72 rfl rfl (hS.lt (by decide)) ?_
    refine v_if_ne (tgt := 85) X (dk D_Rf_actOnInput 34 rfl) (by decide) (fun c69 => absurd he c69) (fun _ => ?_)
    refine v_iload X (dk D_Rf_actOnInput 35 rfl) rfl ?_
    refine v_bipush (v := 9) X (dk D_Rf_actOnInput 36 rfl) (by decide) ?_
    refine v_icmp_le (tgt := 85) X (dk D_Rf_actOnInput 37 rfl) (by decide) (fun c76 => absurd c76 (fun z => cb (lt10 z))) (fun _ => ?_)
    refine v_aload_n X (dk D_Rf_actOnInput 38 rfl) rfl ?_
    refine v_bipush (v := 36) X (dk D_Rf_actOnInput 39 rfl) (by decide) ?_
    refine v_invV (As := [.int 36]) (st := []) X (r_fail1 l q (n := 36) hS) (dk D_Rf_actOnInput 40 rfl) G_Rf_84 K_Rf_fail1 V_Rf_fail1 rfl rfl (hS.lt (by decide)) rfl rfl (Nat.le_of_ble_eq_true rfl) (Nat.le_of_ble_eq_true rfl) (Nat.le_of_ble_eq_true rfl) (Nat.le_of_ble_eq_true rfl) (Nat.le_of_ble_eq_true rfl) ?_
    rintro v w2 ⟨rfl, hw2⟩
    rw [hw2, if_pos he]
    show Vv _ _ _ _ _ _ _ _ _ _ _ _ _ _ _ [] (0, 0, (xI (xI g 1003 2 36) 1003 3 (gI g 1003 10)))
    refine v_aload_n X (dk D_Rf_actOnInput 41 rfl) rfl ?_
    refine v_iload X (dk D_Rf_actOnInput 42 rfl) rfl ?_
    refine v_if_ge (tgt := 95) X (dk D_Rf_actOnInput 43 rfl) (by decide) (fun _ => ?_) (fun c88 => absurd (Int32.not_lt.mp (fun z => cb (Int32.lt_trans z (by decide)))) c88)
    refine v_iload X (dk D_Rf_actOnInput 46 rfl) rfl ?_
    refine v_putI X (dk D_Rf_actOnInput 47 rfl) F_Rf_220 CK_Rf rfl rfl (hS3.lt (by decide)) rfl rfl ?_
    refine v_goto (tgt := 209) X (dk D_Rf_actOnInput 48 rfl) (by decide) ?_
    exact v_vret X hlk hrt (dk D_Rf_actOnInput 101 rfl) ⟨rfl, ((((rs.rf g _ _).fI (by decide)).fI (by decide)).fI (by decide)), (gI_nk (by decide)).trans ((gI_nk (by decide)).trans ((gI_eq _ _ _ _).trans (by rw [h1]; exact (if_neg cb).symm))), fun _ => (gI_nk (by decide)).trans (gI_eq _ _ _ _), fun z => by rw [h1, dvE, if_neg cb] at z; exact absurd z (by decide)⟩
  replace cb := Decidable.not_not.mp cb
  by_cases cn : y < 0
  · refine v_iload_n X (dk D_Rf_actOnInput 0 rfl) rfl ?_
    refine v_bipush (v := 14) X (dk D_Rf_actOnInput 1 rfl) (by decide) ?_
    refine v_icmp_ne (tgt := 51) X (dk D_Rf_actOnInput 2 rfl) (by decide) (fun _ => ?_) (fun c3 => absurd c3 (by decide))
    refine v_iload_n X (dk D_Rf_actOnInput 24 rfl) rfl ?_
    refine v_bipush (v := 15) X (dk D_Rf_actOnInput 25 rfl) (by decide) ?_
    refine v_icmp_ne (tgt := 103) X (dk D_Rf_actOnInput 26 rfl) (by decide) (fun c54 => absurd rfl c54) (fun _ => ?_)
    refine v_aload_n X (dk D_Rf_actOnInput 27 rfl) rfl ?_
    refine v_iload_n X (dk D_Rf_actOnInput 28 rfl) rfl ?_
    refine v_iconst (v := nI (0 + 1)) X (dk D_Rf_actOnInput 29 rfl) (by decide) ?_
    refine v_invV (As := [.int (nI (na r)), .int (nI (0 + 1))]) (st := []) X (r_number l q (i := 0) hS hC (by decide)) (dk D_Rf_actOnInput 30 rfl) G_Rf_299 K_Rf_number V_Rf_number rfl rfl (hS.lt (by decide)) rfl rfl (Nat.le_of_ble_eq_true rfl) (Nat.le_of_ble_eq_true rfl) (Nat.le_of_ble_eq_true rfl) (Nat.le_of_ble_eq_true rfl) (Nat.le_of_ble_eq_true rfl) ?_
    rintro v w1 ⟨x1, rfl, p1, p2⟩
    obtain ⟨e1, hw⟩ := p1 _ h1
    rw [hw, e1]
    show Vv _ _ _ _ _ _ _ _ _ _ _ _ _ _ _ [.int y] (0, 0, g)
    refine v_istore (lb := [some (.ref 1003), some (.int 15), some (.int (nI (na r))), some (.int (nI f.2.1.length)), some (.int y), none]) X (dk D_Rf_actOnInput 31 rfl) (by decide) rfl ?_
    refine v_aload_n X (dk D_Rf_actOnInput 32 rfl) rfl ?_
    refine v_getI X (dk D_Rf_actOnInput 33 rfl) F_Rf_72 rfl rfl (hS.lt (by decide)) ?_
    refine v_if_ne (tgt := 85) X (dk D_Rf_actOnInput 34 rfl) (by decide) (fun c69 => absurd he c69) (fun _ => ?_)
    refine v_iload X (dk D_Rf_actOnInput 35 rfl) rfl ?_
    refine v_bipush (v := 9) X (dk D_Rf_actOnInput 36 rfl) (by decide) ?_
    refine v_icmp_le (tgt := 85) X (dk D_Rf_actOnInput 37 rfl) (by decide) (fun _ => ?_) (fun c76 => absurd (le9 cb) c76)
    refine v_aload_n X (dk D_Rf_actOnInput 41 rfl) rfl ?_
    refine v_iload X (dk D_Rf_actOnInput 42 rfl) rfl ?_
    refine v_if_ge (tgt := 95) X (dk D_Rf_actOnInput 43 rfl) (by decide) (fun c88 => absurd c88 (Int32.not_le.mpr cn)) (fun _ => ?_)
    refine v_iconst (v := -1) X (dk D_Rf_actOnInput 44 rfl) (by decide) ?_
    refine v_goto (tgt := 97) X (dk D_Rf_actOnInput 45 rfl) (by decide) ?_
    refine v_putI X (dk D_Rf_actOnInput 47 rfl) F_Rf_220 CK_Rf rfl rfl (hS.lt (by decide)) rfl rfl ?_
    refine v_goto (tgt := 209) X (dk D_Rf_actOnInput 48 rfl) (by decide) ?_
    exact v_vret X hlk hrt (dk D_Rf_actOnInput 101 rfl) ⟨rfl, (rs.rf g _ _).fI (by decide), ((gI_nk (by decide)).trans he).trans (by rw [h1]; exact (if_pos cb).symm), fun z => absurd (by rw [h1]; exact if_pos cb) z, fun _ => by rw [h1, dvC, if_pos cb, if_pos cn]; exact DVR_cur hD (Or.inl rfl)⟩
  · refine v_iload_n X (dk D_Rf_actOnInput 0 rfl) rfl ?_
    refine v_bipush (v := 14) X (dk D_Rf_actOnInput 1 rfl) (by decide) ?_
    refine v_icmp_ne (tgt := 51) X (dk D_Rf_actOnInput 2 rfl) (by decide) (fun _ => ?_) (fun c3 => absurd c3 (by decide))
    refine v_iload_n X (dk D_Rf_actOnInput 24 rfl) rfl ?_
    refine v_bipush (v := 15) X (dk D_Rf_actOnInput 25 rfl) (by decide) ?_
    refine v_icmp_ne (tgt := 103) X (dk D_Rf_actOnInput 26 rfl) (by decide) (fun c54 => absurd rfl c54) (fun _ => ?_)
    refine v_aload_n X (dk D_Rf_actOnInput 27 rfl) rfl ?_
    refine v_iload_n X (dk D_Rf_actOnInput 28 rfl) rfl ?_
    refine v_iconst (v := nI (0 + 1)) X (dk D_Rf_actOnInput 29 rfl) (by decide) ?_
    refine v_invV (As := [.int (nI (na r)), .int (nI (0 + 1))]) (st := []) X (r_number l q (i := 0) hS hC (by decide)) (dk D_Rf_actOnInput 30 rfl) G_Rf_299 K_Rf_number V_Rf_number rfl rfl (hS.lt (by decide)) rfl rfl (Nat.le_of_ble_eq_true rfl) (Nat.le_of_ble_eq_true rfl) (Nat.le_of_ble_eq_true rfl) (Nat.le_of_ble_eq_true rfl) (Nat.le_of_ble_eq_true rfl) ?_
    rintro v w1 ⟨x1, rfl, p1, p2⟩
    obtain ⟨e1, hw⟩ := p1 _ h1
    rw [hw, e1]
    show Vv _ _ _ _ _ _ _ _ _ _ _ _ _ _ _ [.int y] (0, 0, g)
    refine v_istore (lb := [some (.ref 1003), some (.int 15), some (.int (nI (na r))), some (.int (nI f.2.1.length)), some (.int y), none]) X (dk D_Rf_actOnInput 31 rfl) (by decide) rfl ?_
    refine v_aload_n X (dk D_Rf_actOnInput 32 rfl) rfl ?_
    refine v_getI X (dk D_Rf_actOnInput 33 rfl) F_Rf_72 rfl rfl (hS.lt (by decide)) ?_
    refine v_if_ne (tgt := 85) X (dk D_Rf_actOnInput 34 rfl) (by decide) (fun c69 => absurd he c69) (fun _ => ?_)
    refine v_iload X (dk D_Rf_actOnInput 35 rfl) rfl ?_
    refine v_bipush (v := 9) X (dk D_Rf_actOnInput 36 rfl) (by decide) ?_
    refine v_icmp_le (tgt := 85) X (dk D_Rf_actOnInput 37 rfl) (by decide) (fun _ => ?_) (fun c76 => absurd (le9 cb) c76)
    refine v_aload_n X (dk D_Rf_actOnInput 41 rfl) rfl ?_
    refine v_iload X (dk D_Rf_actOnInput 42 rfl) rfl ?_
    refine v_if_ge (tgt := 95) X (dk D_Rf_actOnInput 43 rfl) (by decide) (fun _ => ?_) (fun c88 => absurd (Int32.not_lt.mp cn) c88)
    refine v_iload X (dk D_Rf_actOnInput 46 rfl) rfl ?_
    refine v_putI X (dk D_Rf_actOnInput 47 rfl) F_Rf_220 CK_Rf rfl rfl (hS.lt (by decide)) rfl rfl ?_
    refine v_goto (tgt := 209) X (dk D_Rf_actOnInput 48 rfl) (by decide) ?_
    exact v_vret X hlk hrt (dk D_Rf_actOnInput 101 rfl) ⟨rfl, (rs.rf g _ _).fI (by decide), ((gI_nk (by decide)).trans he).trans (by rw [h1]; exact (if_pos cb).symm), fun z => absurd (by rw [h1]; exact if_pos cb) z, fun _ => by rw [h1, dvC, if_pos cb, if_neg cn]; exact DVR_cur hD (Or.inr (cur_of cb cn))⟩
