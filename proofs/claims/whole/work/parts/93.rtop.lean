/-! the reference: the newest meaning of a name -/
theorem eq_getD : ∀ {xs ys : List Int32}, xs.length = ys.length → (∀ j, j < ys.length → xs.getD j 0 = ys.getD j 0) → xs = ys
  | [], [], _, _ => rfl
  | [], _ :: _, h, _ => by cases h
  | _ :: _, [], h, _ => by cases h
  | x :: xs, y :: ys, h, hj => by
    rw [show x = y from hj 0 (Nat.succ_pos _), eq_getD (Nat.succ.inj h) (fun j h2 => hj (j + 1) (Nat.succ_lt_succ h2))]
set_option maxHeartbeats 4000000 in
set_option maxRecDepth 100000 in
theorem r_isNamed (l : Launch) (q : ev_T) {r N p : Nat} {A B : List Me} {e : Me} {ys : List Int32} {g : mu_T} (hS : Shp g) (hM : RM g (A ++ e :: B)) (hkr : kdT r = .inr (1, N)) (har : r < gN g) (hN : N < 1073741824) (hpN : p + ys.length ≤ N) (hrow : rwA g r p ys) : Ctr l q M_Rf_isNamed 0 [.ref 1003, .int (nI A.length), .ref r, .int (nI p), .int (nI ys.length)] (0, 0, g) (fun v w => v = some (.int (if e.1 = ys then 1 else 0)) ∧ w.2.2 = g) := by
  obtain ⟨hat, htx, -, hb1, hb2⟩ := hM.at
  refine Ctr.mk (lb := [some (.ref 1003), some (.int (nI A.length)), some (.ref r), some (.int (nI p)), some (.int (nI ys.length)), none, none]) (by decide +kernel) (Nat.le_of_ble_eq_true rfl) rfl rfl ?_
  intro pp ee ss mm aa bb mt cd X hrt hlk hnm
  have bad : ¬ e.1 = ys → ∀ k, k ≤ ys.length + 1 → Vv pp l ee (rmT 0 0 0) ss mm aa bb mt cd 7 q (MQ bb (Qw q (fun v w => v = some (.int (if e.1 = ys then 1 else 0)) ∧ w.2.2 = g)) aa ss 0 0 (fun a => q.1 ≤ a)) 21 [some (.ref 1003), some (.int (nI A.length)), some (.ref r), some (.int (nI p)), some (.int (nI ys.length)), some (.int 0), some (.int (nI k))] [] (0, 0, g) := by
    intro hno k hk
    by_cases c : ys.length ≤ k
    · refine v_iload X (dk D_Rf_isNamed 12 rfl) rfl ?_
      refine v_iload X (dk D_Rf_isNamed 13 rfl) rfl ?_
      refine v_icmp_ge (tgt := 69) X (dk D_Rf_isNamed 14 rfl) (by decide) (fun _ => ?_) (fun c25 => absurd (nI_le (by omega) (by omega)) c25)
      refine v_iload X (dk D_Rf_isNamed 38 rfl) rfl ?_
      exact v_zret X hlk hrt rfl (dk D_Rf_isNamed 39 rfl) ⟨by rw [if_neg hno], rfl⟩
    · refine v_iload X (dk D_Rf_isNamed 12 rfl) rfl ?_
      refine v_iload X (dk D_Rf_isNamed 13 rfl) rfl ?_
      refine v_icmp_ge (tgt := 69) X (dk D_Rf_isNamed 14 rfl) (by decide) (fun c25 => absurd c25 (nI_ge (by omega) (by omega))) (fun _ => ?_)
      refine v_iload X (dk D_Rf_isNamed 15 rfl) rfl ?_
      refine v_if_eq (tgt := 69) X (dk D_Rf_isNamed 16 rfl) (by decide) (fun _ => ?_) (fun c30 => absurd rfl c30)
      refine v_iload X (dk D_Rf_isNamed 38 rfl) rfl ?_
      exact v_zret X hlk hrt rfl (dk D_Rf_isNamed 39 rfl) ⟨by rw [if_neg hno], rfl⟩
  have loop : e.1.length = ys.length → ∀ (d k : Nat), k + d = ys.length → (∀ j, j < k → e.1.getD j 0 = ys.getD j 0) → Vv pp l ee (rmT 0 0 0) ss mm aa bb mt cd 7 q (MQ bb (Qw q (fun v w => v = some (.int (if e.1 = ys then 1 else 0)) ∧ w.2.2 = g)) aa ss 0 0 (fun a => q.1 ≤ a)) 21 [some (.ref 1003), some (.int (nI A.length)), some (.ref r), some (.int (nI p)), some (.int (nI ys.length)), some (.int 1), some (.int (nI k))] [] (0, 0, g) := by
    intro hlen d
    induction d with
    | zero =>
      intro k hkd hm
      refine v_iload X (dk D_Rf_isNamed 12 rfl) rfl ?_
      refine v_iload X (dk D_Rf_isNamed 13 rfl) rfl ?_
      refine v_icmp_ge (tgt := 69) X (dk D_Rf_isNamed 14 rfl) (by decide) (fun _ => ?_) (fun c25 => absurd (nI_le (by omega) (by omega)) c25)
      refine v_iload X (dk D_Rf_isNamed 38 rfl) rfl ?_
      exact v_zret X hlk hrt rfl (dk D_Rf_isNamed 39 rfl) ⟨by rw [if_pos (eq_getD hlen (fun j hj => hm j (by omega)))], rfl⟩
    | succ d ih =>
      intro k hkd hm
      refine v_iload X (dk D_Rf_isNamed 12 rfl) rfl ?_
      refine v_iload X (dk D_Rf_isNamed 13 rfl) rfl ?_
      refine v_icmp_ge (tgt := 69) X (dk D_Rf_isNamed 14 rfl) (by decide) (fun c25 => absurd c25 (nI_ge (by omega) (by omega))) (fun _ => ?_)
      refine v_iload X (dk D_Rf_isNamed 15 rfl) rfl ?_
      refine v_if_eq (tgt := 69) X (dk D_Rf_isNamed 16 rfl) (by decide) (fun c30 => absurd c30 (by decide)) (fun _ => ?_)
      refine v_aload_n X (dk D_Rf_isNamed 17 rfl) rfl ?_
      refine v_getF X (dk D_Rf_isNamed 18 rfl) F_Rf_46 rfl rfl (hS.lt (by decide)) (hS.2 1003 26) ?_
      refine v_aload_n X (dk D_Rf_isNamed 19 rfl) rfl ?_
      refine v_getF X (dk D_Rf_isNamed 20 rfl) F_Rf_34 rfl rfl (hS.lt (by decide)) (hS.2 1003 22) ?_
      refine v_iload_n X (dk D_Rf_isNamed 21 rfl) rfl ?_
      refine v_iald X (dk D_Rf_isNamed 22 rfl) rfl (hS.lt (by decide)) (vp_in_nI (show A.length < 340 by omega) (by decide)) ?_
      rw [nI_clamp (by omega), hat.1]
      refine v_iload X (dk D_Rf_isNamed 23 rfl) rfl ?_
      refine v_iadd X (dk D_Rf_isNamed 24 rfl) ?_
      rw [nI_add]
      refine v_bald X (dk D_Rf_isNamed 25 rfl) rfl (hS.lt (by decide)) (vp_in_nI (show (mT A).length + k < 16684 by omega) (by decide)) ?_
      rw [nI_clamp (by omega), htx k (by omega)]
      refine v_aload_n X (dk D_Rf_isNamed 26 rfl) rfl ?_
      refine v_iload_n X (dk D_Rf_isNamed 27 rfl) rfl ?_
      refine v_iload X (dk D_Rf_isNamed 28 rfl) rfl ?_
      refine v_iadd X (dk D_Rf_isNamed 29 rfl) ?_
      rw [nI_add]
      refine v_bald X (dk D_Rf_isNamed 30 rfl) hkr har (vp_in_nI (show p + k < N by omega) (by omega)) ?_
      rw [nI_clamp (by omega), hrow k (by omega)]
      refine v_icmp_ne (tgt := 60) X (dk D_Rf_isNamed 31 rfl) (by decide) (fun c53 => ?_) (fun c53 => ?_)
      · refine v_iconst (v := 0) X (dk D_Rf_isNamed 34 rfl) (by decide) ?_
        refine v_istore (lb := [some (.ref 1003), some (.int (nI A.length)), some (.ref r), some (.int (nI p)), some (.int (nI ys.length)), some (.int 0), some (.int (nI k))]) X (dk D_Rf_isNamed 35 rfl) (by decide) rfl ?_
        refine v_iinc (v := nI (k + 1)) (lb := [some (.ref 1003), some (.int (nI A.length)), some (.ref r), some (.int (nI p)), some (.int (nI ys.length)), some (.int 0), some (.int (nI (k + 1)))]) X (dk D_Rf_isNamed 36 rfl) rfl (nI_1 k) (by decide) rfl ?_
        refine v_goto (tgt := 21) X (dk D_Rf_isNamed 37 rfl) (by decide) ?_
        exact bad (fun z => c53 (by rw [z])) (k + 1) (by omega)
      · refine v_iconst (v := 1) X (dk D_Rf_isNamed 32 rfl) (by decide) ?_
        refine v_goto (tgt := 61) X (dk D_Rf_isNamed 33 rfl) (by decide) ?_
        refine v_istore (lb := [some (.ref 1003), some (.int (nI A.length)), some (.ref r), some (.int (nI p)), some (.int (nI ys.length)), some (.int 1), some (.int (nI k))]) X (dk D_Rf_isNamed 35 rfl) (by decide) rfl ?_
        refine v_iinc (v := nI (k + 1)) (lb := [some (.ref 1003), some (.int (nI A.length)), some (.ref r), some (.int (nI p)), some (.int (nI ys.length)), some (.int 1), some (.int (nI (k + 1)))]) X (dk D_Rf_isNamed 36 rfl) rfl (nI_1 k) (by decide) rfl ?_
        refine v_goto (tgt := 21) X (dk D_Rf_isNamed 37 rfl) (by decide) ?_
        exact ih (k + 1) (by omega) (fun j hj => by by_cases c : j = k; rw [c]; exact c53; exact hm j (by omega))
  refine v_aload_n X (dk D_Rf_isNamed 0 rfl) rfl ?_
  refine v_getF X (dk D_Rf_isNamed 1 rfl) F_Rf_37 rfl rfl (hS.lt (by decide)) (hS.2 1003 23) ?_
  refine v_iload_n X (dk D_Rf_isNamed 2 rfl) rfl ?_
  refine v_iald X (dk D_Rf_isNamed 3 rfl) rfl (hS.lt (by decide)) (vp_in_nI (show A.length < 340 by omega) (by decide)) ?_
  rw [nI_clamp (by omega), hat.2.1]
  refine v_iload X (dk D_Rf_isNamed 4 rfl) rfl ?_
  refine v_icmp_ne (tgt := 15) X (dk D_Rf_isNamed 5 rfl) (by decide) (fun c8 => ?_) (fun c8 => ?_)
  · refine v_iconst (v := 0) X (dk D_Rf_isNamed 8 rfl) (by decide) ?_
    refine v_istore (lb := [some (.ref 1003), some (.int (nI A.length)), some (.ref r), some (.int (nI p)), some (.int (nI ys.length)), some (.int 0), none]) X (dk D_Rf_isNamed 9 rfl) (by decide) rfl ?_
    refine v_iconst (v := nI 0) X (dk D_Rf_isNamed 10 rfl) (by decide) ?_
    refine v_istore (lb := [some (.ref 1003), some (.int (nI A.length)), some (.ref r), some (.int (nI p)), some (.int (nI ys.length)), some (.int 0), some (.int (nI 0))]) X (dk D_Rf_isNamed 11 rfl) (by decide) rfl ?_
    exact bad (fun z => c8 (by rw [z])) 0 (by omega)
  · refine v_iconst (v := 1) X (dk D_Rf_isNamed 6 rfl) (by decide) ?_
    refine v_goto (tgt := 16) X (dk D_Rf_isNamed 7 rfl) (by decide) ?_
    refine v_istore (lb := [some (.ref 1003), some (.int (nI A.length)), some (.ref r), some (.int (nI p)), some (.int (nI ys.length)), some (.int 1), none]) X (dk D_Rf_isNamed 9 rfl) (by decide) rfl ?_
    refine v_iconst (v := nI 0) X (dk D_Rf_isNamed 10 rfl) (by decide) ?_
    refine v_istore (lb := [some (.ref 1003), some (.int (nI A.length)), some (.ref r), some (.int (nI p)), some (.int (nI ys.length)), some (.int 1), some (.int (nI 0))]) X (dk D_Rf_isNamed 11 rfl) (by decide) rfl ?_
    exact loop ((nI_eq (by omega) (by omega)).mp c8) ys.length 0 (by omega) (fun j hj => by omega)
set_option maxHeartbeats 4000000 in
set_option maxRecDepth 100000 in
theorem r_top (l : Launch) (q : ev_T) {r N p : Nat} {M : List Me} {ys : List Int32} {g : mu_T} (hS : Shp g) (hM : RM g M) (hkr : kdT r = .inr (1, N)) (har : r < gN g) (hN : N < 1073741824) (hpN : p + ys.length ≤ N) (hrow : rwA g r p ys) : Ctr l q M_Rf_top 1 [.ref 1003, .ref r, .int (nI p), .int (nI ys.length)] (0, 0, g) (fun v w => v = some (.int (tpV M ys)) ∧ w.2.2 = g) := by

  refine Ctr.mk (lb := [some (.ref 1003), some (.ref r), some (.int (nI p)), some (.int (nI ys.length)), none, none]) (by decide +kernel) (Nat.le_of_ble_eq_true rfl) rfl rfl ?_
  intro pp ee ss mm aa bb mt cd X hrt hlk hnm
  have loop : ∀ (B A : List Me) (f : Int32), M = A ++ B → tpF ys B A.length f = tpV M ys → Vv pp l ee (rmT 1 0 0) ss mm aa bb mt cd 6 q (MQ bb (Qw q (fun v w => v = some (.int (tpV M ys)) ∧ w.2.2 = g)) aa ss 0 0 (fun a => q.1 ≤ a)) 6 [some (.ref 1003), some (.ref r), some (.int (nI p)), some (.int (nI ys.length)), some (.int f), some (.int (nI A.length))] [] (0, 0, g) := by
    intro B
    induction B with
    | nil =>
      intro A f hMA hf
      refine v_iload X (dk D_Rf_top 4 rfl) rfl ?_
      refine v_aload_n X (dk D_Rf_top 5 rfl) rfl ?_
      refine v_getI X (dk D_Rf_top 6 rfl) F_Rf_188 rfl rfl (hS.lt (by decide)) ?_
      refine v_icmp_ge (tgt := 42) X (dk D_Rf_top 7 rfl) (by decide) (fun _ => ?_) (fun c12 => absurd (by rw [hM.1, hMA, List.append_nil]; exact Int32.le_refl _) c12)
      refine v_iload X (dk D_Rf_top 21 rfl) rfl ?_
      exact v_iret X hlk hrt (dk D_Rf_top 22 rfl) ⟨by rw [← hf]; rfl, rfl⟩
    | cons e B ih =>
      intro A f hMA hf
      have hml := hM.2.2.2.2.2.2.1
      refine v_iload X (dk D_Rf_top 4 rfl) rfl ?_
      refine v_aload_n X (dk D_Rf_top 5 rfl) rfl ?_
      refine v_getI X (dk D_Rf_top 6 rfl) F_Rf_188 rfl rfl (hS.lt (by decide)) ?_
      refine v_icmp_ge (tgt := 42) X (dk D_Rf_top 7 rfl) (by decide) (fun c12 => absurd c12 (by rw [hM.1, hMA]; exact nI_ge (by rw [List.length_append, List.length_cons]; omega) (by rw [← hMA]; omega))) (fun _ => ?_)
      refine v_aload_n X (dk D_Rf_top 8 rfl) rfl ?_
      refine v_iload X (dk D_Rf_top 9 rfl) rfl ?_
      refine v_aload_n X (dk D_Rf_top 10 rfl) rfl ?_
      refine v_iload_n X (dk D_Rf_top 11 rfl) rfl ?_
      refine v_iload_n X (dk D_Rf_top 12 rfl) rfl ?_
      refine v_invV (As := [.int (nI A.length), .ref r, .int (nI p), .int (nI ys.length)]) (st := []) X (r_isNamed l q hS (show RM g (A ++ e :: B) from hMA ▸ hM) hkr har hN hpN hrow) (dk D_Rf_top 13 rfl) G_Rf_213 K_Rf_isNamed V_Rf_isNamed rfl rfl (hS.lt (by decide)) rfl rfl (Nat.le_of_ble_eq_true rfl) (Nat.le_of_ble_eq_true rfl) (Nat.le_of_ble_eq_true rfl) (Nat.le_of_ble_eq_true rfl) (Nat.le_of_ble_eq_true rfl) ?_
      rintro v w ⟨rfl, hw⟩
      rw [hw]
      show Vv _ _ _ _ _ _ _ _ _ _ _ _ _ _ _ [.int (if e.1 = ys then 1 else 0)] (0, 0, g)
      refine v_if_eq (tgt := 32) X (dk D_Rf_top 14 rfl) (by decide) (fun c24 => ?_) (fun c24 => ?_)
      · replace c24 : ¬ e.1 = ys := fun z => by rw [if_pos z] at c24; exact absurd c24 (by decide)
        refine v_iload X (dk D_Rf_top 17 rfl) rfl ?_
        refine v_istore (lb := [some (.ref 1003), some (.ref r), some (.int (nI p)), some (.int (nI ys.length)), some (.int f), some (.int (nI A.length))]) X (dk D_Rf_top 18 rfl) (by decide) rfl ?_
        refine v_iinc (v := nI (A ++ [e]).length) (lb := [some (.ref 1003), some (.ref r), some (.int (nI p)), some (.int (nI ys.length)), some (.int f), some (.int (nI (A ++ [e]).length))]) X (dk D_Rf_top 19 rfl) rfl (by rw [List.length_append]; exact nI_1 A.length) (by decide) rfl ?_
        refine v_goto (tgt := 6) X (dk D_Rf_top 20 rfl) (by decide) ?_
        exact ih (A ++ [e]) _ (by rw [List.append_assoc]; exact hMA) (by rw [← hf, List.length_append, List.length_singleton, tpF, if_neg c24])
      · replace c24 : e.1 = ys := Decidable.byContradiction (fun z => c24 (by rw [if_neg z]))
        refine v_iload X (dk D_Rf_top 15 rfl) rfl ?_
        refine v_goto (tgt := 34) X (dk D_Rf_top 16 rfl) (by decide) ?_
        refine v_istore (lb := [some (.ref 1003), some (.ref r), some (.int (nI p)), some (.int (nI ys.length)), some (.int (nI A.length)), some (.int (nI A.length))]) X (dk D_Rf_top 18 rfl) (by decide) rfl ?_
        refine v_iinc (v := nI (A ++ [e]).length) (lb := [some (.ref 1003), some (.ref r), some (.int (nI p)), some (.int (nI ys.length)), some (.int (nI A.length)), some (.int (nI (A ++ [e]).length))]) X (dk D_Rf_top 19 rfl) rfl (by rw [List.length_append]; exact nI_1 A.length) (by decide) rfl ?_
        refine v_goto (tgt := 6) X (dk D_Rf_top 20 rfl) (by decide) ?_
        exact ih (A ++ [e]) _ (by rw [List.append_assoc]; exact hMA) (by rw [← hf, List.length_append, List.length_singleton, tpF, if_pos c24])
  refine v_iconst (v := -1) X (dk D_Rf_top 0 rfl) (by decide) ?_
  refine v_istore (lb := [some (.ref 1003), some (.ref r), some (.int (nI p)), some (.int (nI ys.length)), some (.int (-1)), none]) X (dk D_Rf_top 1 rfl) (by decide) rfl ?_
  refine v_iconst (v := nI 0) X (dk D_Rf_top 2 rfl) (by decide) ?_
  refine v_istore (lb := [some (.ref 1003), some (.ref r), some (.int (nI p)), some (.int (nI ys.length)), some (.int (-1)), some (.int (nI 0))]) X (dk D_Rf_top 3 rfl) (by decide) rfl ?_
  exact loop M [] (-1) rfl rfl
