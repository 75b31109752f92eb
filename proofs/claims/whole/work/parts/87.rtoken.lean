/-! the reference: tokens -/
theorem bgn_len {u ys : List Int32} (hu : u.length ≤ 32768) (hy : ys.length ≤ 4) (h : bgn u ys = true) : ys.length ≤ u.length := by
  have h := of_decide_eq_true h
  refine Decidable.byContradiction (fun z => ?_)
  have h1 := h u.length (by omega)
  rw [atL_out (Nat.le_refl _) (by omega)] at h1
  have h2 := and255_pos (ys.getD u.length 0)
  rw [← h1] at h2
  exact absurd h2 (by decide)
theorem tkL_ok : ∀ {n : Nat} {J : Ip}, (tkL n J).1 = true → (tkL n J).2.2.length = n
  | 0, _, _ => rfl
  | n + 1, J, h => by
    by_cases c : tkV J < 0
    · rw [show tkL (n + 1) J = (false, J, []) from if_pos c] at h; cases h
    · rw [show tkL (n + 1) J = ((tkL n (tkI J)).1, (tkL n (tkI J)).2.1, J.1.getD 0 0 :: (tkL n (tkI J)).2.2) from if_neg c] at h ⊢
      rw [List.length_cons, tkL_ok h]
theorem TK_put {g : mu_T} {xs : List Int32} {x : Int32} (h : TK g xs) (hl : xs.length < 32768) : TK (xI (xI g 1009 xs.length x) 1003 18 (nI (xs.length + 1))) (xs ++ [x]) := by
  refine ⟨by rw [gI_eq, List.length_append]; rfl, fun j hj => ?_, by rw [List.length_append, List.length_singleton]; omega⟩
  rw [List.length_append, List.length_singleton] at hj
  rw [gI_na (by decide), Nat.zero_add]
  by_cases e : j = xs.length
  · rw [e, gI_eq, List.getD_eq_getElem?_getD, List.getElem?_append_right (Nat.le_refl _), Nat.sub_self]; rfl
  · rw [gI_nk e, List.getD_eq_getElem?_getD, List.getElem?_append_left (by omega), ← List.getD_eq_getElem?_getD]
    have := h.2.1 j (by omega)
    rw [Nat.zero_add] at this
    exact this
set_option maxHeartbeats 4000000 in
set_option maxRecDepth 100000 in
theorem r_isAhead (l : Launch) (q : ev_T) {fu r : Nat} {I : Ip} {ys : List Int32} {g : mu_T} (hS : Shp g) (hI : RQ g fu I) (hkr : kdT r = .inr (0, 4)) (har : r < gN g) (hy0 : 0 < ys.length) (hy4 : ys.length ≤ 4) (hrow : ∀ j, j < ys.length → gI g r j = ys.getD j 0 &&& 255) : Ctr l q M_Rf_isAhead 1 [.ref 1003, .ref r, .int (nI ys.length)] (0, 0, g) (fun v w => v = some (.int (if bgn I.1 ys = true then 1 else 0)) ∧ w.2.2 = g) := by

  refine Ctr.mk (lb := [some (.ref 1003), some (.ref r), some (.int (nI ys.length)), none, none]) (by decide +kernel) (Nat.le_of_ble_eq_true rfl) rfl rfl ?_
  intro pp ee ss mm aa bb mt cd X hrt hlk hnm
  have bad : ¬ bgn I.1 ys = true → ∀ k, k ≤ 100 → Vv pp l ee (rmT 1 0 0) ss mm aa bb mt cd 5 q (MQ bb (Qw q (fun v w => v = some (.int (if bgn I.1 ys = true then 1 else 0)) ∧ w.2.2 = g)) aa ss 0 0 (fun a => q.1 ≤ a)) 13 [some (.ref 1003), some (.ref r), some (.int (nI ys.length)), some (.int 0), some (.int (nI k))] [] (0, 0, g) := by
    intro hno k hk
    by_cases c : ys.length ≤ k
    · refine v_iload X (dk D_Rf_isAhead 8 rfl) rfl ?_
      refine v_iload_n X (dk D_Rf_isAhead 9 rfl) rfl ?_
      refine v_icmp_ge (tgt := 48) X (dk D_Rf_isAhead 10 rfl) (by decide) (fun _ => ?_) (fun c16 => absurd (nI_le (by omega) (by omega)) c16)
      refine v_iload_n X (dk D_Rf_isAhead 26 rfl) rfl ?_
      exact v_zret X hlk hrt rfl (dk D_Rf_isAhead 27 rfl) ⟨by rw [if_neg hno], rfl⟩
    · refine v_iload X (dk D_Rf_isAhead 8 rfl) rfl ?_
      refine v_iload_n X (dk D_Rf_isAhead 9 rfl) rfl ?_
      refine v_icmp_ge (tgt := 48) X (dk D_Rf_isAhead 10 rfl) (by decide) (fun c16 => absurd c16 (nI_ge (by omega) (by omega))) (fun _ => ?_)
      refine v_iload_n X (dk D_Rf_isAhead 11 rfl) rfl ?_
      refine v_if_eq (tgt := 48) X (dk D_Rf_isAhead 12 rfl) (by decide) (fun _ => ?_) (fun c20 => absurd rfl c20)
      refine v_iload_n X (dk D_Rf_isAhead 26 rfl) rfl ?_
      exact v_zret X hlk hrt rfl (dk D_Rf_isAhead 27 rfl) ⟨by rw [if_neg hno], rfl⟩
  have loop : ∀ (d k : Nat), k + d = ys.length → (∀ j, j < k → atL I.1 (nI j) = ys.getD j 0 &&& 255) → Vv pp l ee (rmT 1 0 0) ss mm aa bb mt cd 5 q (MQ bb (Qw q (fun v w => v = some (.int (if bgn I.1 ys = true then 1 else 0)) ∧ w.2.2 = g)) aa ss 0 0 (fun a => q.1 ≤ a)) 13 [some (.ref 1003), some (.ref r), some (.int (nI ys.length)), some (.int 1), some (.int (nI k))] [] (0, 0, g) := by
    intro d
    induction d with
    | zero =>
      intro k hkd hm
      refine v_iload X (dk D_Rf_isAhead 8 rfl) rfl ?_
      refine v_iload_n X (dk D_Rf_isAhead 9 rfl) rfl ?_
      refine v_icmp_ge (tgt := 48) X (dk D_Rf_isAhead 10 rfl) (by decide) (fun _ => ?_) (fun c16 => absurd (nI_le (by omega) (by omega)) c16)
      refine v_iload_n X (dk D_Rf_isAhead 26 rfl) rfl ?_
      exact v_zret X hlk hrt rfl (dk D_Rf_isAhead 27 rfl) ⟨by rw [if_pos (show bgn I.1 ys = true from decide_eq_true (fun j hj => hm j (by omega)))], rfl⟩
    | succ d ih =>
      intro k hkd hm
      refine v_iload X (dk D_Rf_isAhead 8 rfl) rfl ?_
      refine v_iload_n X (dk D_Rf_isAhead 9 rfl) rfl ?_
      refine v_icmp_ge (tgt := 48) X (dk D_Rf_isAhead 10 rfl) (by decide) (fun c16 => absurd c16 (nI_ge (by omega) (by omega))) (fun _ => ?_)
      refine v_iload_n X (dk D_Rf_isAhead 11 rfl) rfl ?_
      refine v_if_eq (tgt := 48) X (dk D_Rf_isAhead 12 rfl) (by decide) (fun c20 => absurd c20 (by decide)) (fun _ => ?_)
      refine v_aload_n X (dk D_Rf_isAhead 13 rfl) rfl ?_
      refine v_iload X (dk D_Rf_isAhead 14 rfl) rfl ?_
      refine v_invV (As := [.int (nI k)]) (st := []) X (r_peek l q (k := k) hS hI (by omega)) (dk D_Rf_isAhead 15 rfl) G_Rf_101 K_Rf_peek V_Rf_peek rfl rfl (hS.lt (by decide)) rfl rfl (Nat.le_of_ble_eq_true rfl) (Nat.le_of_ble_eq_true rfl) (Nat.le_of_ble_eq_true rfl) (Nat.le_of_ble_eq_true rfl) (Nat.le_of_ble_eq_true rfl) ?_
      rintro v ws ⟨rfl, hws⟩
      rw [hws]
      show Vv _ _ _ _ _ _ _ _ _ _ _ _ _ _ _ [.int (atL I.1 (nI k))] (0, 0, g)
      refine v_aload_n X (dk D_Rf_isAhead 16 rfl) rfl ?_
      refine v_iload X (dk D_Rf_isAhead 17 rfl) rfl ?_
      refine v_iald X (dk D_Rf_isAhead 18 rfl) hkr har (vp_in_nI (show k < 4 by omega) (by decide)) ?_
      rw [nI_clamp (by omega), hrow k (by omega)]
      refine v_icmp_ne (tgt := 40) X (dk D_Rf_isAhead 19 rfl) (by decide) (fun c33 => ?_) (fun c33 => ?_)
      · refine v_iconst (v := 0) X (dk D_Rf_isAhead 22 rfl) (by decide) ?_
        refine v_istore_n (lb := [some (.ref 1003), some (.ref r), some (.int (nI ys.length)), some (.int 0), some (.int (nI k))]) X (dk D_Rf_isAhead 23 rfl) (by decide) rfl ?_
        refine v_iinc (v := nI (k + 1)) (lb := [some (.ref 1003), some (.ref r), some (.int (nI ys.length)), some (.int 0), some (.int (nI (k + 1)))]) X (dk D_Rf_isAhead 24 rfl) rfl (nI_1 k) (by decide) rfl ?_
        refine v_goto (tgt := 13) X (dk D_Rf_isAhead 25 rfl) (by decide) ?_
        exact bad (fun z => c33 ((of_decide_eq_true z) k (by omega))) (k + 1) (by omega)
      · refine v_iconst (v := 1) X (dk D_Rf_isAhead 20 rfl) (by decide) ?_
        refine v_goto (tgt := 41) X (dk D_Rf_isAhead 21 rfl) (by decide) ?_
        refine v_istore_n (lb := [some (.ref 1003), some (.ref r), some (.int (nI ys.length)), some (.int 1), some (.int (nI k))]) X (dk D_Rf_isAhead 23 rfl) (by decide) rfl ?_
        refine v_iinc (v := nI (k + 1)) (lb := [some (.ref 1003), some (.ref r), some (.int (nI ys.length)), some (.int 1), some (.int (nI (k + 1)))]) X (dk D_Rf_isAhead 24 rfl) rfl (nI_1 k) (by decide) rfl ?_
        refine v_goto (tgt := 13) X (dk D_Rf_isAhead 25 rfl) (by decide) ?_
        exact ih (k + 1) (by omega) (fun j hj => by by_cases e : j = k; rw [e]; exact c33; exact hm j (by omega))
  refine v_iload_n X (dk D_Rf_isAhead 0 rfl) rfl ?_
  refine v_if_le (tgt := 8) X (dk D_Rf_isAhead 1 rfl) (by decide) (fun c1 => absurd c1 (nI_nle (by omega) (by omega))) (fun _ => ?_)
  refine v_iconst (v := 1) X (dk D_Rf_isAhead 2 rfl) (by decide) ?_
  refine v_goto (tgt := 9) X (dk D_Rf_isAhead 3 rfl) (by decide) ?_
  refine v_istore_n (lb := [some (.ref 1003), some (.ref r), some (.int (nI ys.length)), some (.int 1), none]) X (dk D_Rf_isAhead 5 rfl) (by decide) rfl ?_
  refine v_iconst (v := nI 0) X (dk D_Rf_isAhead 6 rfl) (by decide) ?_
  refine v_istore (lb := [some (.ref 1003), some (.ref r), some (.int (nI ys.length)), some (.int 1), some (.int (nI 0))]) X (dk D_Rf_isAhead 7 rfl) (by decide) rfl ?_
  exact loop ys.length 0 (by omega) (fun j hj => by omega)
theorem tk_byte {g : mu_T} {fu : Nat} {J : Ip} (hB : mmB (0, 0, g)) (hJ : RQ g fu J) (hv : ¬ tkV J < 0) : (tkV J).toInt8.toInt32 = J.1.getD 0 0 := by
  obtain ⟨x, us, t1, t2, t3⟩ := tk_yes (Int32.not_lt.mp hv)
  have h := hJ.2.2.1 0 (by rw [t1]; simp)
  rw [t2, and255_b, t1]
  show x.toInt8.toInt32 = x
  have hx : x = gI g 1006 (32768 - J.1.length + 0) := by rw [h, t1]; rfl
  rw [hx]
  exact hB 1006 32768 rfl _
set_option maxHeartbeats 4000000 in
set_option maxRecDepth 100000 in
theorem r_pass (l : Launch) (q : ev_T) {fu n : Nat} {pt : Bool} {I : Ip} {xs : List Int32} {g : mu_T} (hS : Shp g) (hI : RQ g fu I) (he : gI g 1003 2 = 0) (hX : TK g xs) (hxl : xs.length + I.1.length ≤ 32768) (hn : n ≤ I.1.length) : Ctr l q M_Rf_pass 3 [.ref 1003, .int (nI n), .int (if pt = true then 1 else 0)] (0, 0, g) (fun v w => v = none ∧ rs g w.2.2 [2, 3, 4, 8, 9, 10, 11, 18] [1009] ∧ RQ w.2.2 fu (tkL n I).2.1 ∧ gI w.2.2 1003 2 = (if (tkL n I).1 = true then 0 else 31) ∧ (¬ (tkL n I).1 = true → gI w.2.2 1003 3 = nI ((tkL n I).2.1.2.2.2 + 1)) ∧ TK w.2.2 (xs ++ ktL pt (tkL n I).2.2)) := by
  have hI32 := hI.2.1
  refine Ctr.mk (lb := [some (.ref 1003), some (.int (nI n)), some (.int (if pt = true then 1 else 0)), none, none]) (by decide +kernel) (Nat.le_of_ble_eq_true rfl) rfl rfl ?_
  intro pp ee ss mm aa bb mt cd X hrt hlk hnm
  have bad : ∀ (u : mu_T) (k : Nat), k ≤ 100000 → Shp u → ¬ gI u 1003 2 = 0 → ((none : Option Value) = none ∧ rs g u [2, 3, 4, 8, 9, 10, 11, 18] [1009] ∧ RQ u fu (tkL n I).2.1 ∧ gI u 1003 2 = (if (tkL n I).1 = true then 0 else 31) ∧ (¬ (tkL n I).1 = true → gI u 1003 3 = nI ((tkL n I).2.1.2.2.2 + 1)) ∧ TK u (xs ++ ktL pt (tkL n I).2.2)) → Vv pp l ee (rmT 3 0 0) ss mm aa bb mt cd 5 q (MQ bb (Qw q (fun v w => v = none ∧ rs g w.2.2 [2, 3, 4, 8, 9, 10, 11, 18] [1009] ∧ RQ w.2.2 fu (tkL n I).2.1 ∧ gI w.2.2 1003 2 = (if (tkL n I).1 = true then 0 else 31) ∧ (¬ (tkL n I).1 = true → gI w.2.2 1003 3 = nI ((tkL n I).2.1.2.2.2 + 1)) ∧ TK w.2.2 (xs ++ ktL pt (tkL n I).2.2))) aa ss 0 0 (fun a => q.1 ≤ a)) 2 [some (.ref 1003), some (.int (nI n)), some (.int (if pt = true then 1 else 0)), some (.int (nI k)), none] [] (0, 0, u) := by
    intro u k hk hSe hee hfin
    by_cases c : n ≤ k
    · refine v_iload_n X (dk D_Rf_pass 2 rfl) rfl ?_
      refine v_iload_n X (dk D_Rf_pass 3 rfl) rfl ?_
      refine v_icmp_ge (tgt := 59) X (dk D_Rf_pass 4 rfl) (by decide) (fun _ => ?_) (fun c4 => absurd (nI_le (by omega) (by omega)) c4)
      exact v_vret X hlk hrt (dk D_Rf_pass 31 rfl) hfin
    · refine v_iload_n X (dk D_Rf_pass 2 rfl) rfl ?_
      refine v_iload_n X (dk D_Rf_pass 3 rfl) rfl ?_
      refine v_icmp_ge (tgt := 59) X (dk D_Rf_pass 4 rfl) (by decide) (fun c4 => absurd c4 (nI_ge (by omega) (by omega))) (fun _ => ?_)
      refine v_aload_n X (dk D_Rf_pass 5 rfl) rfl ?_
      refine v_getI X (dk D_Rf_pass 6 rfl) F_Rf_72 rfl rfl (hSe.lt (by decide)) ?_
      refine v_if_ne (tgt := 59) X (dk D_Rf_pass 7 rfl) (by decide) (fun _ => ?_) (fun c11 => absurd c11 hee)
      exact v_vret X hlk hrt (dk D_Rf_pass 31 rfl) hfin
  have loop : ∀ (d k : Nat) (u : mu_T) (J : Ip) (ys : List Int32), k + d = n → d ≤ J.1.length → rs g u [2, 3, 4, 8, 9, 10, 11, 18] [1009] → RQ u fu J → gI u 1003 2 = 0 → TK u (xs ++ ktL pt ys) → (xs ++ ktL pt ys).length + J.1.length ≤ 32768 → (tkL n I) = ((tkL d J).1, (tkL d J).2.1, ys ++ (tkL d J).2.2) → Vv pp l ee (rmT 3 0 0) ss mm aa bb mt cd 5 q (MQ bb (Qw q (fun v w => v = none ∧ rs g w.2.2 [2, 3, 4, 8, 9, 10, 11, 18] [1009] ∧ RQ w.2.2 fu (tkL n I).2.1 ∧ gI w.2.2 1003 2 = (if (tkL n I).1 = true then 0 else 31) ∧ (¬ (tkL n I).1 = true → gI w.2.2 1003 3 = nI ((tkL n I).2.1.2.2.2 + 1)) ∧ TK w.2.2 (xs ++ ktL pt (tkL n I).2.2))) aa ss 0 0 (fun a => q.1 ≤ a)) 2 [some (.ref 1003), some (.int (nI n)), some (.int (if pt = true then 1 else 0)), some (.int (nI k)), none] [] (0, 0, u) := by
    intro d
    induction d with
    | zero =>
      intro k u J ys hkd hdJ zu hJ heu hTK hxl hT
      have hSu := zu.S hS
      refine v_iload_n X (dk D_Rf_pass 2 rfl) rfl ?_
      refine v_iload_n X (dk D_Rf_pass 3 rfl) rfl ?_
      refine v_icmp_ge (tgt := 59) X (dk D_Rf_pass 4 rfl) (by decide) (fun _ => ?_) (fun c4 => absurd (nI_le (by omega) (by omega)) c4)
      exact v_vret X hlk hrt (dk D_Rf_pass 31 rfl) ⟨rfl, zu, by rw [hT]; exact hJ, by rw [hT]; exact heu, fun z => absurd (by rw [hT]; rfl) z, by rw [hT]; show TK u (xs ++ ktL pt (ys ++ [])); rw [List.append_nil]; exact hTK⟩
    | succ d ih =>
      intro k u J ys hkd hdJ zu hJ heu hTK hxl hT
      have hSu := zu.S hS
      have hJn : ¬ J.1 = [] := fun z => by rw [z, List.length_nil] at hdJ; omega
      have hJ32 := hJ.2.1
      by_cases hv : tkV J < 0
      · have hTf : (tkL n I) = (false, J, ys ++ []) := by rw [hT, show tkL (d + 1) J = (false, J, []) from if_pos hv]
        have htb : tkI J = J := tk_bad (fun z => absurd z (Int32.not_le.mpr hv))
        have a2c : ∀ w, RQ w fu (tkI J) → RQ w fu J := fun w h => by rw [htb] at h; exact h
        rcases (show pt = true ∨ pt = false by cases pt <;> simp) with hpt | hpt
        · refine v_iload_n X (dk D_Rf_pass 2 rfl) rfl ?_
          refine v_iload_n X (dk D_Rf_pass 3 rfl) rfl ?_
          refine v_icmp_ge (tgt := 59) X (dk D_Rf_pass 4 rfl) (by decide) (fun c4 => absurd c4 (nI_ge (by omega) (by omega))) (fun _ => ?_)
          refine v_aload_n X (dk D_Rf_pass 5 rfl) rfl ?_
          refine v_getI X (dk D_Rf_pass 6 rfl) F_Rf_72 rfl rfl (hSu.lt (by decide)) ?_
          refine v_if_ne (tgt := 59) X (dk D_Rf_pass 7 rfl) (by decide) (fun c11 => absurd heu c11) (fun _ => ?_)
          refine v_aload_n X (dk D_Rf_pass 8 rfl) rfl ?_
          refine v_invV (As := []) (st := []) X (r_take l q hSu hJ hJn heu) (dk D_Rf_pass 9 rfl) G_Rf_105 K_Rf_take V_Rf_take rfl rfl (hSu.lt (by decide)) rfl rfl (Nat.le_of_ble_eq_true rfl) (Nat.le_of_ble_eq_true rfl) (Nat.le_of_ble_eq_true rfl) (Nat.le_of_ble_eq_true rfl) (Nat.le_of_ble_eq_true rfl) ?_
          rintro v w1 ⟨rfl, a1, a2, a3, a4⟩
          have z1 := zu.tr (a1.mono (K2 := [2, 3, 4, 8, 9, 10, 11, 18]) (U2 := [1009]) (by decide) (by decide))
          have S1 := z1.S hS
          have T1 := hTK.rs a1 (by decide) (by decide)
          show Vv _ _ _ _ _ _ _ _ _ _ _ _ _ _ _ [.int (tkV J)] (0, 0, w1.2.2)
          refine v_istore (lb := [some (.ref 1003), some (.int (nI n)), some (.int (if pt = true then 1 else 0)), some (.int (nI k)), some (.int (tkV J))]) X (dk D_Rf_pass 10 rfl) (by decide) rfl ?_
          refine v_iload_n X (dk D_Rf_pass 11 rfl) rfl ?_
          refine v_if_eq (tgt := 53) X (dk D_Rf_pass 12 rfl) (by decide) (fun c21 => absurd c21 (by rw [hpt]; decide)) (fun _ => ?_)
          refine v_aload_n X (dk D_Rf_pass 13 rfl) rfl ?_
          refine v_getI X (dk D_Rf_pass 14 rfl) F_Rf_72 rfl rfl (S1.lt (by decide)) ?_
          refine v_if_ne (tgt := 53) X (dk D_Rf_pass 15 rfl) (by decide) (fun _ => ?_) (fun c28 => absurd c28 (by rw [a3, if_pos hv]; decide))
          refine v_iinc (v := nI (k + 1)) (lb := [some (.ref 1003), some (.int (nI n)), some (.int (if pt = true then 1 else 0)), some (.int (nI (k + 1))), some (.int (tkV J))]) X (dk D_Rf_pass 29 rfl) rfl (nI_1 k) (by decide) rfl ?_
          refine v_goto (tgt := 2) X (dk D_Rf_pass 30 rfl) (by decide) ?_
          exact v_weak (la := [some (.ref 1003), some (.int (nI n)), some (.int (if pt = true then 1 else 0)), some (.int (nI (k + 1))), none]) ⟨rfl, rfl, rfl, rfl, trivial⟩ (bad w1.2.2 (k + 1) (by omega) S1 (by rw [a3, if_pos hv]; decide) ⟨rfl, z1, by rw [hTf]; exact (a2c _ a2), by rw [hTf, a3, if_pos hv]; rfl, fun _ => by rw [hTf]; exact a4 hv, by rw [hTf]; show TK _ (xs ++ ktL pt (ys ++ [])); rw [List.append_nil]; exact T1⟩)
        · refine v_iload_n X (dk D_Rf_pass 2 rfl) rfl ?_
          refine v_iload_n X (dk D_Rf_pass 3 rfl) rfl ?_
          refine v_icmp_ge (tgt := 59) X (dk D_Rf_pass 4 rfl) (by decide) (fun c4 => absurd c4 (nI_ge (by omega) (by omega))) (fun _ => ?_)
          refine v_aload_n X (dk D_Rf_pass 5 rfl) rfl ?_
          refine v_getI X (dk D_Rf_pass 6 rfl) F_Rf_72 rfl rfl (hSu.lt (by decide)) ?_
          refine v_if_ne (tgt := 59) X (dk D_Rf_pass 7 rfl) (by decide) (fun c11 => absurd heu c11) (fun _ => ?_)
          refine v_aload_n X (dk D_Rf_pass 8 rfl) rfl ?_
          refine v_invV (As := []) (st := []) X (r_take l q hSu hJ hJn heu) (dk D_Rf_pass 9 rfl) G_Rf_105 K_Rf_take V_Rf_take rfl rfl (hSu.lt (by decide)) rfl rfl (Nat.le_of_ble_eq_true rfl) (Nat.le_of_ble_eq_true rfl) (Nat.le_of_ble_eq_true rfl) (Nat.le_of_ble_eq_true rfl) (Nat.le_of_ble_eq_true rfl) ?_
          rintro v w1 ⟨rfl, a1, a2, a3, a4⟩
          have z1 := zu.tr (a1.mono (K2 := [2, 3, 4, 8, 9, 10, 11, 18]) (U2 := [1009]) (by decide) (by decide))
          have S1 := z1.S hS
          have T1 := hTK.rs a1 (by decide) (by decide)
          show Vv _ _ _ _ _ _ _ _ _ _ _ _ _ _ _ [.int (tkV J)] (0, 0, w1.2.2)
          refine v_istore (lb := [some (.ref 1003), some (.int (nI n)), some (.int (if pt = true then 1 else 0)), some (.int (nI k)), some (.int (tkV J))]) X (dk D_Rf_pass 10 rfl) (by decide) rfl ?_
          refine v_iload_n X (dk D_Rf_pass 11 rfl) rfl ?_
          refine v_if_eq (tgt := 53) X (dk D_Rf_pass 12 rfl) (by decide) (fun _ => ?_) (fun c21 => absurd (by rw [hpt]; rfl) c21)
          refine v_iinc (v := nI (k + 1)) (lb := [some (.ref 1003), some (.int (nI n)), some (.int (if pt = true then 1 else 0)), some (.int (nI (k + 1))), some (.int (tkV J))]) X (dk D_Rf_pass 29 rfl) rfl (nI_1 k) (by decide) rfl ?_
          refine v_goto (tgt := 2) X (dk D_Rf_pass 30 rfl) (by decide) ?_
          exact v_weak (la := [some (.ref 1003), some (.int (nI n)), some (.int (if pt = true then 1 else 0)), some (.int (nI (k + 1))), none]) ⟨rfl, rfl, rfl, rfl, trivial⟩ (bad w1.2.2 (k + 1) (by omega) S1 (by rw [a3, if_pos hv]; decide) ⟨rfl, z1, by rw [hTf]; exact (a2c _ a2), by rw [hTf, a3, if_pos hv]; rfl, fun _ => by rw [hTf]; exact a4 hv, by rw [hTf]; show TK _ (xs ++ ktL pt (ys ++ [])); rw [List.append_nil]; exact T1⟩)
      · have hTs : (tkL n I) = ((tkL d (tkI J)).1, (tkL d (tkI J)).2.1, (ys ++ [J.1.getD 0 0]) ++ (tkL d (tkI J)).2.2) := by rw [hT, show tkL (d + 1) J = ((tkL d (tkI J)).1, (tkL d (tkI J)).2.1, J.1.getD 0 0 :: (tkL d (tkI J)).2.2) from if_neg hv, List.append_assoc]; rfl
        have htl := tk_len hv
        refine v_inv (fun hBu _ => ?_)
        have htv : (tkV J).toInt8.toInt32 = J.1.getD 0 0 := tk_byte hBu hJ hv
        have htv2 : (J.1.getD 0 0).toInt8.toInt32 = J.1.getD 0 0 := by rw [← htv, Int8.toInt8_toInt32]
        rcases (show pt = true ∨ pt = false by cases pt <;> simp) with hpt | hpt
        · refine v_iload_n X (dk D_Rf_pass 2 rfl) rfl ?_
          refine v_iload_n X (dk D_Rf_pass 3 rfl) rfl ?_
          refine v_icmp_ge (tgt := 59) X (dk D_Rf_pass 4 rfl) (by decide) (fun c4 => absurd c4 (nI_ge (by omega) (by omega))) (fun _ => ?_)
          refine v_aload_n X (dk D_Rf_pass 5 rfl) rfl ?_
          refine v_getI X (dk D_Rf_pass 6 rfl) F_Rf_72 rfl rfl (hSu.lt (by decide)) ?_
          refine v_if_ne (tgt := 59) X (dk D_Rf_pass 7 rfl) (by decide) (fun c11 => absurd heu c11) (fun _ => ?_)
          refine v_aload_n X (dk D_Rf_pass 8 rfl) rfl ?_
          refine v_invV (As := []) (st := []) X (r_take l q hSu hJ hJn heu) (dk D_Rf_pass 9 rfl) G_Rf_105 K_Rf_take V_Rf_take rfl rfl (hSu.lt (by decide)) rfl rfl (Nat.le_of_ble_eq_true rfl) (Nat.le_of_ble_eq_true rfl) (Nat.le_of_ble_eq_true rfl) (Nat.le_of_ble_eq_true rfl) (Nat.le_of_ble_eq_true rfl) ?_
          rintro v w1 ⟨rfl, a1, a2, a3, a4⟩
          have z1 := zu.tr (a1.mono (K2 := [2, 3, 4, 8, 9, 10, 11, 18]) (U2 := [1009]) (by decide) (by decide))
          have S1 := z1.S hS
          have T1 := hTK.rs a1 (by decide) (by decide)
          show Vv _ _ _ _ _ _ _ _ _ _ _ _ _ _ _ [.int (tkV J)] (0, 0, w1.2.2)
          refine v_istore (lb := [some (.ref 1003), some (.int (nI n)), some (.int (if pt = true then 1 else 0)), some (.int (nI k)), some (.int (tkV J))]) X (dk D_Rf_pass 10 rfl) (by decide) rfl ?_
          refine v_iload_n X (dk D_Rf_pass 11 rfl) rfl ?_
          refine v_if_eq (tgt := 53) X (dk D_Rf_pass 12 rfl) (by decide) (fun c21 => absurd c21 (by rw [hpt]; decide)) (fun _ => ?_)
          refine v_aload_n X (dk D_Rf_pass 13 rfl) rfl ?_
          refine v_getI X (dk D_Rf_pass 14 rfl) F_Rf_72 rfl rfl (S1.lt (by decide)) ?_
          refine v_if_ne (tgt := 53) X (dk D_Rf_pass 15 rfl) (by decide) (fun c28 => absurd (by rw [a3, if_neg hv]) c28) (fun _ => ?_)
          refine v_aload_n X (dk D_Rf_pass 16 rfl) rfl ?_
          refine v_getF X (dk D_Rf_pass 17 rfl) F_Rf_27 rfl rfl (S1.lt (by decide)) (S1.2 1003 17) ?_
          refine v_aload_n X (dk D_Rf_pass 18 rfl) rfl ?_
          refine v_getI X (dk D_Rf_pass 19 rfl) F_Rf_109 rfl rfl (S1.lt (by decide)) ?_
          refine v_iload X (dk D_Rf_pass 20 rfl) rfl ?_
          refine v_i2b X (dk D_Rf_pass 21 rfl) rfl ?_
          refine v_bast X (dk D_Rf_pass 22 rfl) rfl (S1.lt (by decide)) (by rw [T1.1]; exact vp_in_nI (show (xs ++ ktL pt ys).length < 32768 by omega) (by decide)) rfl ?_
          rw [T1.1, nI_clamp (by omega), htv, htv2]
          refine v_aload_n X (dk D_Rf_pass 23 rfl) rfl ?_
          refine v_dup X (dk D_Rf_pass 24 rfl) rfl ?_
          refine v_getI X (dk D_Rf_pass 25 rfl) F_Rf_109 rfl rfl (S1.lt (by decide)) ?_
          refine v_iconst (v := 1) X (dk D_Rf_pass 26 rfl) (by decide) ?_
          refine v_iadd X (dk D_Rf_pass 27 rfl) ?_
          rw [show gI (xI w1.2.2 1009 (xs ++ ktL pt ys).length (J.1.getD 0 0)) 1003 18 = nI (xs ++ ktL pt ys).length from (gI_na (by decide)).trans T1.1, nI_1]
          refine v_putI X (dk D_Rf_pass 28 rfl) F_Rf_109 CK_Rf rfl rfl (S1.lt (by decide)) rfl rfl ?_
          refine v_iinc (v := nI (k + 1)) (lb := [some (.ref 1003), some (.int (nI n)), some (.int (if pt = true then 1 else 0)), some (.int (nI (k + 1))), some (.int (tkV J))]) X (dk D_Rf_pass 29 rfl) rfl (nI_1 k) (by decide) rfl ?_
          refine v_goto (tgt := 2) X (dk D_Rf_pass 30 rfl) (by decide) ?_
          exact v_weak (la := [some (.ref 1003), some (.int (nI n)), some (.int (if pt = true then 1 else 0)), some (.int (nI (k + 1))), none]) ⟨rfl, rfl, rfl, rfl, trivial⟩ (ih (k + 1) _ (tkI J) (ys ++ [J.1.getD 0 0]) (by omega) (by omega) ((z1.rI (by decide) (by decide)).fI (by decide)) (RQ.rs a2 (show rs w1.2.2 _ [18] [1009] from ((rs.rf _ _ _).rI (by decide) (by decide)).fI (by decide)) (by decide) (by decide)) ((gI_nk (by decide)).trans ((gI_na (by decide)).trans (by rw [a3, if_neg hv]))) (by rw [ktL_app, show ktL pt [J.1.getD 0 0] = [J.1.getD 0 0] from by rw [hpt]; rfl, ← List.append_assoc]; exact TK_put T1 (by omega)) (by rw [ktL_app, ← List.append_assoc, List.length_append, show ktL pt [J.1.getD 0 0] = [J.1.getD 0 0] from by rw [hpt]; rfl, List.length_singleton]; omega) hTs)
        · refine v_iload_n X (dk D_Rf_pass 2 rfl) rfl ?_
          refine v_iload_n X (dk D_Rf_pass 3 rfl) rfl ?_
          refine v_icmp_ge (tgt := 59) X (dk D_Rf_pass 4 rfl) (by decide) (fun c4 => absurd c4 (nI_ge (by omega) (by omega))) (fun _ => ?_)
          refine v_aload_n X (dk D_Rf_pass 5 rfl) rfl ?_
          refine v_getI X (dk D_Rf_pass 6 rfl) F_Rf_72 rfl rfl (hSu.lt (by decide)) ?_
          refine v_if_ne (tgt := 59) X (dk D_Rf_pass 7 rfl) (by decide) (fun c11 => absurd heu c11) (fun _ => ?_)
          refine v_aload_n X (dk D_Rf_pass 8 rfl) rfl ?_
          refine v_invV (As := []) (st := []) X (r_take l q hSu hJ hJn heu) (dk D_Rf_pass 9 rfl) G_Rf_105 K_Rf_take V_Rf_take rfl rfl (hSu.lt (by decide)) rfl rfl (Nat.le_of_ble_eq_true rfl) (Nat.le_of_ble_eq_true rfl) (Nat.le_of_ble_eq_true rfl) (Nat.le_of_ble_eq_true rfl) (Nat.le_of_ble_eq_true rfl) ?_
          rintro v w1 ⟨rfl, a1, a2, a3, a4⟩
          have z1 := zu.tr (a1.mono (K2 := [2, 3, 4, 8, 9, 10, 11, 18]) (U2 := [1009]) (by decide) (by decide))
          have S1 := z1.S hS
          have T1 := hTK.rs a1 (by decide) (by decide)
          show Vv _ _ _ _ _ _ _ _ _ _ _ _ _ _ _ [.int (tkV J)] (0, 0, w1.2.2)
          refine v_istore (lb := [some (.ref 1003), some (.int (nI n)), some (.int (if pt = true then 1 else 0)), some (.int (nI k)), some (.int (tkV J))]) X (dk D_Rf_pass 10 rfl) (by decide) rfl ?_
          refine v_iload_n X (dk D_Rf_pass 11 rfl) rfl ?_
          refine v_if_eq (tgt := 53) X (dk D_Rf_pass 12 rfl) (by decide) (fun _ => ?_) (fun c21 => absurd (by rw [hpt]; rfl) c21)
          refine v_iinc (v := nI (k + 1)) (lb := [some (.ref 1003), some (.int (nI n)), some (.int (if pt = true then 1 else 0)), some (.int (nI (k + 1))), some (.int (tkV J))]) X (dk D_Rf_pass 29 rfl) rfl (nI_1 k) (by decide) rfl ?_
          refine v_goto (tgt := 2) X (dk D_Rf_pass 30 rfl) (by decide) ?_
          exact v_weak (la := [some (.ref 1003), some (.int (nI n)), some (.int (if pt = true then 1 else 0)), some (.int (nI (k + 1))), none]) ⟨rfl, rfl, rfl, rfl, trivial⟩ (ih (k + 1) w1.2.2 (tkI J) (ys ++ [J.1.getD 0 0]) (by omega) (by omega) z1 a2 (by rw [a3, if_neg hv]) (by rw [ktL_app, show ktL pt [J.1.getD 0 0] = [] from by rw [hpt]; rfl, List.append_nil]; exact T1) (by rw [ktL_app, show ktL pt [J.1.getD 0 0] = [] from by rw [hpt]; rfl, List.append_nil]; omega) hTs)
  refine v_iconst (v := nI 0) X (dk D_Rf_pass 0 rfl) (by decide) ?_
  refine v_istore_n (lb := [some (.ref 1003), some (.int (nI n)), some (.int (if pt = true then 1 else 0)), some (.int (nI 0)), none]) X (dk D_Rf_pass 1 rfl) (by decide) rfl ?_
  exact v_weak (la := [some (.ref 1003), some (.int (nI n)), some (.int (if pt = true then 1 else 0)), some (.int (nI 0)), none]) ⟨rfl, rfl, rfl, rfl, trivial⟩ (loop n 0 g I [] (by omega) hn (rs.rf _ _ _) hI he (by rw [show ktL pt [] = [] from by cases pt <;> rfl, List.append_nil]; exact hX) (by rw [show ktL pt [] = [] from by cases pt <;> rfl, List.append_nil]; exact hxl) (by rw [List.nil_append]))
