/-! the reference: what is given -/
def GV (g : mu_T) (G : List Int32) : Prop := gI g 1003 20 = nI G.length ∧ rwA g 1010 0 G ∧ G.length ≤ 32768
theorem GV.rs {g w : mu_T} {K U : List Nat} {G : List Int32} (h : GV g G) (z : rs g w K U) (hK : 20 ∉ K) (hU : 1010 ∉ U) : GV w G := ⟨by rw [z.2 20 hK]; exact h.1, fun j hj => by rw [z.row hU (by decide)]; exact h.2.1 j hj, h.2.2⟩
/-- all that is given so far, or the error that there is no room for it -/
def GE (g : mu_T) (I : Ip) (F : List Int32) : Prop := (gI g 1003 2 = 0 ∧ GV g F ∧ F.length + I.1.length ≤ 32768) ∨ (gI g 1003 2 = 40 ∧ gI g 1003 3 = nI (I.2.2.2 + 1) ∧ 32768 < F.length + I.1.length ∧ ∃ G, GV g G ∧ G.length + I.1.length ≤ 32768)
theorem GE.rs {g w : mu_T} {K U : List Nat} {I : Ip} {F : List Int32} (h : GE g I F) (z : rs g w K U) (h2 : 2 ∉ K) (h3 : 3 ∉ K) (hK : 20 ∉ K) (hU : 1010 ∉ U) : GE w I F := by
  rcases h with ⟨a, b, c⟩ | ⟨a, b, c, G, d, e⟩
  · exact Or.inl ⟨by rw [z.2 2 h2]; exact a, b.rs z hK hU, c⟩
  · exact Or.inr ⟨by rw [z.2 2 h2]; exact a, by rw [z.2 3 h3]; exact b, c, G, d.rs z hK hU, e⟩
theorem GV_put {g : mu_T} {G : List Int32} {x : Int32} (h : GV g G) (hl : G.length < 32768) : GV (xI (xI g 1010 G.length x) 1003 20 (nI (G.length + 1))) (G ++ [x]) := by
  refine ⟨by rw [gI_eq, List.length_append]; rfl, fun j hj => ?_, by rw [List.length_append, List.length_singleton]; omega⟩
  rw [List.length_append, List.length_singleton] at hj
  rw [gI_na (by decide), Nat.zero_add]
  by_cases e : j = G.length
  · rw [e, gI_eq, List.getD_eq_getElem?_getD, List.getElem?_append_right (Nat.le_refl _), Nat.sub_self]; rfl
  · rw [gI_nk e, List.getD_eq_getElem?_getD, List.getElem?_append_left (by omega), ← List.getD_eq_getElem?_getD]
    have := h.2.1 j (by omega)
    rw [Nat.zero_add] at this
    exact this
set_option maxHeartbeats 4000000 in
set_option maxRecDepth 100000 in
theorem r_give (l : Launch) (q : ev_T) {fu : Nat} {x : Int32} {I : Ip} {F : List Int32} {g : mu_T} (hS : Shp g) (hI : RQ g fu I) (hE : GE g I F) : Ctr l q M_Rf_give 2 [.ref 1003, .int x] (0, 0, g) (fun v w => v = none ∧ rs g w.2.2 [2, 3, 20] [1010] ∧ GE w.2.2 I (F ++ [x.toInt8.toInt32])) := by
  have hI32 := hI.2.1
  refine Ctr.mk (lb := [some (.ref 1003), some (.int x)]) (by decide +kernel) (Nat.le_of_ble_eq_true rfl) rfl rfl ?_
  intro pp ee ss mm aa bb mt cd X hrt hlk hnm
  rcases hE with ⟨he, hV, hF⟩ | ⟨he, hl, hlt, G, hV, hG⟩
  · by_cases hr : F.length + I.1.length < 32768
    · refine v_aload_n X (dk D_Rf_give 0 rfl) rfl ?_
      refine v_getI X (dk D_Rf_give 1 rfl) F_Rf_139 rfl rfl (hS.lt (by decide)) ?_
      rw [hV.1]
      refine v_aload_n X (dk D_Rf_give 2 rfl) rfl ?_
      refine v_invV (As := []) (st := [.int (nI F.length)]) X (r_inputLeft l q hS hI) (dk D_Rf_give 3 rfl) G_Rf_142 K_Rf_inputLeft V_Rf_inputLeft rfl rfl (hS.lt (by decide)) rfl rfl (Nat.le_of_ble_eq_true rfl) (Nat.le_of_ble_eq_true rfl) (Nat.le_of_ble_eq_true rfl) (Nat.le_of_ble_eq_true rfl) (Nat.le_of_ble_eq_true rfl) ?_
      rintro v ws ⟨rfl, hws⟩
      rw [hws]
      show Vv _ _ _ _ _ _ _ _ _ _ _ _ _ _ _ [.int (nI I.1.length), .int (nI F.length)] (0, 0, g)
      refine v_iadd X (dk D_Rf_give 4 rfl) ?_
      rw [nI_add]
      refine v_ldc X (dk D_Rf_give 5 rfl) C_Rf_9 ?_
      refine v_icmp_lt (tgt := 20) X (dk D_Rf_give 6 rfl) (by decide) (fun _ => ?_) (fun c11 => absurd (nI_lt (b := 32768) (by omega) (by decide)) c11)
      refine v_aload_n X (dk D_Rf_give 10 rfl) rfl ?_
      refine v_getI X (dk D_Rf_give 11 rfl) F_Rf_72 rfl rfl (hS.lt (by decide)) ?_
      refine v_if_ne (tgt := 48) X (dk D_Rf_give 12 rfl) (by decide) (fun c24 => absurd he c24) (fun _ => ?_)
      refine v_aload_n X (dk D_Rf_give 13 rfl) rfl ?_
      refine v_getF X (dk D_Rf_give 14 rfl) F_Rf_31 rfl rfl (hS.lt (by decide)) (hS.2 1003 19) ?_
      refine v_aload_n X (dk D_Rf_give 15 rfl) rfl ?_
      refine v_getI X (dk D_Rf_give 16 rfl) F_Rf_139 rfl rfl (hS.lt (by decide)) ?_
      refine v_iload_n X (dk D_Rf_give 17 rfl) rfl ?_
      refine v_i2b X (dk D_Rf_give 18 rfl) rfl ?_
      refine v_bast X (dk D_Rf_give 19 rfl) rfl (hS.lt (by decide)) (by rw [hV.1]; exact vp_in_nI (show F.length < 32769 by omega) (by decide)) rfl ?_
      rw [hV.1, nI_clamp (by omega), Int8.toInt8_toInt32]
      refine v_aload_n X (dk D_Rf_give 20 rfl) rfl ?_
      refine v_dup X (dk D_Rf_give 21 rfl) rfl ?_
      refine v_getI X (dk D_Rf_give 22 rfl) F_Rf_139 rfl rfl (hS.lt (by decide)) ?_
      refine v_iconst (v := 1) X (dk D_Rf_give 23 rfl) (by decide) ?_
      refine v_iadd X (dk D_Rf_give 24 rfl) ?_
      rw [show gI (xI g 1010 F.length x.toInt8.toInt32) 1003 20 = nI F.length from (gI_na (by decide)).trans hV.1, nI_1]
      refine v_putI X (dk D_Rf_give 25 rfl) F_Rf_139 CK_Rf rfl rfl (hS.lt (by decide)) rfl rfl ?_
      exact v_vret X hlk hrt (dk D_Rf_give 26 rfl) ⟨rfl, ((rs.rf g _ _).rI (by decide) (by decide)).fI (by decide), Or.inl ⟨(gI_nk (by decide)).trans ((gI_na (by decide)).trans he), GV_put hV (by omega), by rw [List.length_append, List.length_singleton]; omega⟩⟩
    · refine v_aload_n X (dk D_Rf_give 0 rfl) rfl ?_
      refine v_getI X (dk D_Rf_give 1 rfl) F_Rf_139 rfl rfl (hS.lt (by decide)) ?_
      rw [hV.1]
      refine v_aload_n X (dk D_Rf_give 2 rfl) rfl ?_
      refine v_invV (As := []) (st := [.int (nI F.length)]) X (r_inputLeft l q hS hI) (dk D_Rf_give 3 rfl) G_Rf_142 K_Rf_inputLeft V_Rf_inputLeft rfl rfl (hS.lt (by decide)) rfl rfl (Nat.le_of_ble_eq_true rfl) (Nat.le_of_ble_eq_true rfl) (Nat.le_of_ble_eq_true rfl) (Nat.le_of_ble_eq_true rfl) (Nat.le_of_ble_eq_true rfl) ?_
      rintro v ws ⟨rfl, hws⟩
      rw [hws]
      show Vv _ _ _ _ _ _ _ _ _ _ _ _ _ _ _ [.int (nI I.1.length), .int (nI F.length)] (0, 0, g)
      refine v_iadd X (dk D_Rf_give 4 rfl) ?_
      rw [nI_add]
      refine v_ldc X (dk D_Rf_give 5 rfl) C_Rf_9 ?_
      refine v_icmp_lt (tgt := 20) X (dk D_Rf_give 6 rfl) (by decide) (fun c11 => absurd c11 (nI_nlt (b := 32768) (by omega) (by omega))) (fun _ => ?_)
      refine v_aload_n X (dk D_Rf_give 7 rfl) rfl ?_
      refine v_bipush (v := 40) X (dk D_Rf_give 8 rfl) (by decide) ?_
      refine v_invV (As := [.int 40]) (st := []) X (r_fail1 l q (n := 40) hS) (dk D_Rf_give 9 rfl) G_Rf_84 K_Rf_fail1 V_Rf_fail1 rfl rfl (hS.lt (by decide)) rfl rfl (Nat.le_of_ble_eq_true rfl) (Nat.le_of_ble_eq_true rfl) (Nat.le_of_ble_eq_true rfl) (Nat.le_of_ble_eq_true rfl) (Nat.le_of_ble_eq_true rfl) ?_
      rintro v w1 ⟨rfl, hw⟩
      have hw1 : w1.2.2 = xI (xI g 1003 2 40) 1003 3 (gI g 1003 10) := by rw [hw, if_pos he]
      show Vv _ _ _ _ _ _ _ _ _ _ _ _ _ _ _ [] (0, 0, w1.2.2)
      refine v_aload_n X (dk D_Rf_give 10 rfl) rfl ?_
      refine v_getI X (dk D_Rf_give 11 rfl) F_Rf_72 rfl rfl ((hS.sm (show sm g w1.2.2 [1003] from by rw [hw1]; exact ((sm.rf g _).xI (by simp)).xI (by simp))).lt (by decide)) ?_
      refine v_if_ne (tgt := 48) X (dk D_Rf_give 12 rfl) (by decide) (fun _ => ?_) (fun c24 => absurd c24 (by rw [hw1, gI_nk (by decide), gI_eq]; decide))
      exact v_vret X hlk hrt (dk D_Rf_give 26 rfl) ⟨rfl, by rw [hw1]; exact ((rs.rf g _ _).fI (by decide)).fI (by decide), Or.inr ⟨by rw [hw1, gI_nk (by decide), gI_eq], by rw [hw1, gI_eq]; exact hI.2.2.2.2.2.1, by rw [List.length_append, List.length_singleton]; omega, F, by rw [hw1]; exact hV.rs (show rs g _ [2, 3] [] from ((rs.rf g _ _).fI (by decide)).fI (by decide)) (by decide) (by decide), by omega⟩⟩
  · refine v_aload_n X (dk D_Rf_give 0 rfl) rfl ?_
    refine v_getI X (dk D_Rf_give 1 rfl) F_Rf_139 rfl rfl (hS.lt (by decide)) ?_
    rw [hV.1]
    refine v_aload_n X (dk D_Rf_give 2 rfl) rfl ?_
    refine v_invV (As := []) (st := [.int (nI G.length)]) X (r_inputLeft l q hS hI) (dk D_Rf_give 3 rfl) G_Rf_142 K_Rf_inputLeft V_Rf_inputLeft rfl rfl (hS.lt (by decide)) rfl rfl (Nat.le_of_ble_eq_true rfl) (Nat.le_of_ble_eq_true rfl) (Nat.le_of_ble_eq_true rfl) (Nat.le_of_ble_eq_true rfl) (Nat.le_of_ble_eq_true rfl) ?_
    rintro v ws ⟨rfl, hws⟩
    rw [hws]
    show Vv _ _ _ _ _ _ _ _ _ _ _ _ _ _ _ [.int (nI I.1.length), .int (nI G.length)] (0, 0, g)
    refine v_iadd X (dk D_Rf_give 4 rfl) ?_
    rw [nI_add]
    refine v_ldc X (dk D_Rf_give 5 rfl) C_Rf_9 ?_
    refine v_icmp_lt (tgt := 20) X (dk D_Rf_give 6 rfl) (by decide) (fun c11 => ?_) (fun c11 => ?_)
    · refine v_aload_n X (dk D_Rf_give 10 rfl) rfl ?_
      refine v_getI X (dk D_Rf_give 11 rfl) F_Rf_72 rfl rfl (hS.lt (by decide)) ?_
      refine v_if_ne (tgt := 48) X (dk D_Rf_give 12 rfl) (by decide) (fun _ => ?_) (fun c24 => absurd c24 (by rw [he]; decide))
      exact v_vret X hlk hrt (dk D_Rf_give 26 rfl) ⟨rfl, rs.rf _ _ _, Or.inr ⟨he, hl, by rw [List.length_append, List.length_singleton]; omega, G, hV, hG⟩⟩
    · refine v_aload_n X (dk D_Rf_give 7 rfl) rfl ?_
      refine v_bipush (v := 40) X (dk D_Rf_give 8 rfl) (by decide) ?_
      refine v_invV (As := [.int 40]) (st := []) X (r_fail1 l q (n := 40) hS) (dk D_Rf_give 9 rfl) G_Rf_84 K_Rf_fail1 V_Rf_fail1 rfl rfl (hS.lt (by decide)) rfl rfl (Nat.le_of_ble_eq_true rfl) (Nat.le_of_ble_eq_true rfl) (Nat.le_of_ble_eq_true rfl) (Nat.le_of_ble_eq_true rfl) (Nat.le_of_ble_eq_true rfl) ?_
      rintro v w1 ⟨rfl, hw⟩
      have hw1 : w1.2.2 = g := by rw [hw, if_neg (by rw [he]; decide)]
      rw [hw1]
      show Vv _ _ _ _ _ _ _ _ _ _ _ _ _ _ _ [] (0, 0, g)
      refine v_aload_n X (dk D_Rf_give 10 rfl) rfl ?_
      refine v_getI X (dk D_Rf_give 11 rfl) F_Rf_72 rfl rfl (hS.lt (by decide)) ?_
      refine v_if_ne (tgt := 48) X (dk D_Rf_give 12 rfl) (by decide) (fun _ => ?_) (fun c24 => absurd c24 (by rw [he]; decide))
      exact v_vret X hlk hrt (dk D_Rf_give 26 rfl) ⟨rfl, rs.rf _ _ _, Or.inr ⟨he, hl, by rw [List.length_append, List.length_singleton]; omega, G, hV, hG⟩⟩
set_option maxHeartbeats 4000000 in
set_option maxRecDepth 100000 in
theorem r_giveNumber (l : Launch) (q : ev_T) {fu : Nat} {x : Int32} {I : Ip} {F : List Int32} {g : mu_T} (hS : Shp g) (hI : RQ g fu I) (hE : GE g I F) : Ctr l q M_Rf_giveNumber 3 [.ref 1003, .long x.toInt64] (0, 0, g) (fun v w => v = none ∧ rs g w.2.2 [2, 3, 20] [1010] ∧ GE w.2.2 I (F ++ decB x)) := by
  obtain ⟨a, haa⟩ : ∃ a, a = x.toInt.natAbs := ⟨_, rfl⟩
  have hal : a < 10000000000 := by rw [haa]; exact abs_lt x
  have p10 : ∀ k, k ≤ 10 → 10 ^ k ≤ 10000000000 := fun k hk => Nat.le_trans (Nat.pow_le_pow_right (by decide) hk) (by decide)
  refine Ctr.mk (lb := [some (.ref 1003), some (.long x.toInt64), none, none, none, none, none]) (by decide +kernel) (Nat.le_of_ble_eq_true rfl) rfl rfl ?_
  intro pp ee ss mm aa bb mt cd X hrt hlk hnm
  have lp2 : ∀ (j : Nat), j ≤ 10 → ∀ (h : mu_T) (ys : List Int32), rs g h [2, 3, 20] [1010] → GE h I ys → ys ++ dgL a j = F ++ decB x → Vv pp l ee (rmT 3 0 0) ss mm aa bb mt cd 7 q (MQ bb (Qw q (fun v w => v = none ∧ rs g w.2.2 [2, 3, 20] [1010] ∧ GE w.2.2 I (F ++ decB x))) aa ss 0 0 (fun a => q.1 ≤ a)) 42 [some (.ref 1003), some (.long x.toInt64), none, some (.long (lN a)), none, some (.long (lN (unJ j))), none] [] (0, 0, h) := by
    intro j
    induction j with
    | zero =>
      intro hj10 h ys hs hG hf
      have hSh := hs.S hS
      refine v_lload X (dk D_Rf_giveNumber 25 rfl) rfl ?_
      refine v_lconst (v := 0) X (dk D_Rf_giveNumber 26 rfl) (by decide) ?_
      refine v_lcmp X (dk D_Rf_giveNumber 27 rfl) ?_
      refine v_if_le (tgt := 77) X (dk D_Rf_giveNumber 28 rfl) (by decide) (fun _ => ?_) (fun c46 => absurd (by rw [lg_cmp_le]; exact Int64.le_refl _) c46)
      exact v_vret X hlk hrt (dk D_Rf_giveNumber 44 rfl) ⟨rfl, hs, by rw [← hf, dgL, List.append_nil]; exact hG⟩
    | succ j ih0 =>
      intro hj10 h ys hs hG hf
      have hSh := hs.S hS
      have ih := ih0 (by omega)
      have hul := unJ_lt hj10
      have hup : 0 < unJ (j + 1) := Nat.pow_pos (by decide)
      refine v_lload X (dk D_Rf_giveNumber 25 rfl) rfl ?_
      refine v_lconst (v := 0) X (dk D_Rf_giveNumber 26 rfl) (by decide) ?_
      refine v_lcmp X (dk D_Rf_giveNumber 27 rfl) ?_
      refine v_if_le (tgt := 77) X (dk D_Rf_giveNumber 28 rfl) (by decide) (fun c46 => absurd c46 (by rw [lg_cmp_le, show (0 : Int64) = lN 0 from rfl, pk_lLE (by omega) (by decide)]; have := hup; omega)) (fun _ => ?_)
      refine v_aload_n X (dk D_Rf_giveNumber 29 rfl) rfl ?_
      refine v_ldc2 X (dk D_Rf_giveNumber 30 rfl) C_Rf_152 ?_
      refine v_lload_n X (dk D_Rf_giveNumber 31 rfl) rfl ?_
      refine v_lload X (dk D_Rf_giveNumber 32 rfl) rfl ?_
      refine v_ldiv X (dk D_Rf_giveNumber 33 rfl) (by intro z; have z2 := congrArg Int64.toInt z; rw [pk_lT (by omega)] at z2; have z3 : ((unJ (j + 1) : Nat) : Int) = 0 := z2; omega) ?_
      refine v_ldc2 X (dk D_Rf_giveNumber 34 rfl) C_Rf_150 ?_
      refine v_lrem X (dk D_Rf_giveNumber 35 rfl) (by decide) ?_
      refine v_ladd X (dk D_Rf_giveNumber 36 rfl) ?_
      refine v_l2i X (dk D_Rf_giveNumber 37 rfl) rfl ?_
      rw [show ((48 : Int64) + (lN a / lN (unJ (j + 1)) - lN a / lN (unJ (j + 1)) / 10 * 10)).toInt32 = dg a j from by rw [pk_lDiv (by omega) hup (by omega), show (10 : Int64) = lN 10 from rfl, pk_lRem (by have := Nat.div_le_self a (unJ (j + 1)); omega) (by decide) (by decide), show (48 : Int64) = lN 48 from rfl, lN_add, lN_i]; rfl]
      refine v_invV (As := [.int (dg a j)]) (st := []) X (r_give l q (x := dg a j) hSh (hI.rs hs (by decide) (by decide)) hG) (dk D_Rf_giveNumber 38 rfl) G_Rf_145 K_Rf_give V_Rf_give rfl rfl (hSh.lt (by decide)) rfl rfl (Nat.le_of_ble_eq_true rfl) (Nat.le_of_ble_eq_true rfl) (Nat.le_of_ble_eq_true rfl) (Nat.le_of_ble_eq_true rfl) (Nat.le_of_ble_eq_true rfl) ?_
      rintro v w ⟨rfl, a1, a2⟩
      rw [dg_b] at a2
      show Vv _ _ _ _ _ _ _ _ _ _ _ _ _ _ _ [] (0, 0, w.2.2)
      refine v_lload X (dk D_Rf_giveNumber 39 rfl) rfl ?_
      refine v_ldc2 X (dk D_Rf_giveNumber 40 rfl) C_Rf_150 ?_
      refine v_ldiv X (dk D_Rf_giveNumber 41 rfl) (by decide) ?_
      rw [show lN (unJ (j + 1)) / 10 = lN (unJ j) from by rw [show (10 : Int64) = lN 10 from rfl, pk_lDiv (by omega) (by decide) (by decide), unJ_div]]
      refine v_lstore (lb := [some (.ref 1003), some (.long x.toInt64), none, some (.long (lN a)), none, some (.long (lN (unJ j))), none]) X (dk D_Rf_giveNumber 42 rfl) (by decide) rfl ?_
      refine v_goto (tgt := 42) X (dk D_Rf_giveNumber 43 rfl) (by decide) ?_
      exact ih _ _ (hs.tr a1) a2 (by rw [← hf, dgL, List.append_assoc]; rfl)
  have lp1 : ∀ (h : mu_T) (ys : List Int32), rs g h [2, 3, 20] [1010] → GE h I ys → ys ++ decN a = F ++ decB x → ∀ (d k : Nat), k + d = 10 → k ≤ 9 → (k = 0 ∨ 10 ^ k ≤ a) → Vv pp l ee (rmT 3 0 0) ss mm aa bb mt cd 7 q (MQ bb (Qw q (fun v w => v = none ∧ rs g w.2.2 [2, 3, 20] [1010] ∧ GE w.2.2 I (F ++ decB x))) aa ss 0 0 (fun a => q.1 ≤ a)) 20 [some (.ref 1003), some (.long x.toInt64), none, some (.long (lN a)), none, some (.long (lN (10 ^ k))), none] [] (0, 0, h) := by
    intro h ys hs hG hf0 d
    have hSh := hs.S hS
    induction d with
    | zero => intro k hkd hk9; omega
    | succ d ih =>
      intro k hkd hk9 hk0
      have hkp : 0 < 10 ^ k := Nat.pow_pos (by decide)
      have hk10 := p10 k (by omega)
      refine v_lload_n X (dk D_Rf_giveNumber 14 rfl) rfl ?_
      refine v_lload X (dk D_Rf_giveNumber 15 rfl) rfl ?_
      refine v_ldiv X (dk D_Rf_giveNumber 16 rfl) (by intro z; have z2 := congrArg Int64.toInt z; rw [pk_lT (by omega)] at z2; have z3 : ((10 ^ k : Nat) : Int) = 0 := z2; omega) ?_
      rw [pk_lDiv (by omega) hkp (by omega)]
      refine v_ldc2 X (dk D_Rf_giveNumber 17 rfl) C_Rf_148 ?_
      refine v_lcmp X (dk D_Rf_giveNumber 18 rfl) ?_
      refine v_if_le (tgt := 42) X (dk D_Rf_giveNumber 19 rfl) (by decide) (fun c28 => ?_) (fun c28 => ?_)
      · exact lp2 (k + 1) (by omega) h ys hs hG (by rw [← hf0]; show ys ++ dgL a (k + 1) = ys ++ dgL a (kOf a + 1); rw [kOf_eq (by omega) hk0 (by have := (show a / 10 ^ k ≤ 9 from by rw [lg_cmp_le, show (9 : Int64) = lN 9 from rfl, pk_lLE (by have := Nat.div_le_self a (10 ^ k); omega) (by decide)] at c28; exact c28); rw [Nat.pow_succ]; have h2 := Nat.div_lt_iff_lt_mul (x := a) (y := 10) hkp; have h3 := h2.mp (by omega); rw [Nat.mul_comm]; exact h3)])
      · refine v_ldc2 X (dk D_Rf_giveNumber 20 rfl) C_Rf_150 ?_
        refine v_lload X (dk D_Rf_giveNumber 21 rfl) rfl ?_
        refine v_lmul X (dk D_Rf_giveNumber 22 rfl) ?_
        rw [show (10 : Int64) * lN (10 ^ k) = lN (10 ^ (k + 1)) from by rw [show (10 : Int64) = lN 10 from rfl, lN_mul, Nat.mul_comm, ← Nat.pow_succ]]
        refine v_lstore (lb := [some (.ref 1003), some (.long x.toInt64), none, some (.long (lN a)), none, some (.long (lN (10 ^ (k + 1)))), none]) X (dk D_Rf_giveNumber 23 rfl) (by decide) rfl ?_
        refine v_goto (tgt := 20) X (dk D_Rf_giveNumber 24 rfl) (by decide) ?_
        have h9 := (show 9 < a / 10 ^ k from by rw [lg_cmp_le, show (9 : Int64) = lN 9 from rfl, pk_lLE (by have := Nat.div_le_self a (10 ^ k); omega) (by decide)] at c28; omega)
        have hge : 10 ^ (k + 1) ≤ a := by rw [Nat.pow_succ]; have := (Nat.le_div_iff_mul_le (x := 10) (y := a) hkp).mp (by omega); rw [Nat.mul_comm]; exact this
        exact ih (k + 1) (by omega) (by have : k + 1 ≤ 9 := Decidable.byContradiction (fun z => by have h1 := Nat.pow_le_pow_right (n := 10) (by decide) (show 10 ≤ k + 1 by omega); omega); omega) (Or.inr hge)
  have mid : ∀ (h : mu_T) (ys : List Int32), rs g h [2, 3, 20] [1010] → GE h I ys → ys ++ decN a = F ++ decB x → Vv pp l ee (rmT 3 0 0) ss mm aa bb mt cd 7 q (MQ bb (Qw q (fun v w => v = none ∧ rs g w.2.2 [2, 3, 20] [1010] ∧ GE w.2.2 I (F ++ decB x))) aa ss 0 0 (fun a => q.1 ≤ a)) 17 [some (.ref 1003), some (.long x.toInt64), none, some (.long (lN a)), none, none, none] [] (0, 0, h) := by
    intro h ys hs hG hf0
    have hSh := hs.S hS
    refine v_lconst (v := lN (10 ^ 0)) X (dk D_Rf_giveNumber 12 rfl) (by decide) ?_
    refine v_lstore (lb := [some (.ref 1003), some (.long x.toInt64), none, some (.long (lN a)), none, some (.long (lN (10 ^ 0))), none]) X (dk D_Rf_giveNumber 13 rfl) (by decide) rfl ?_
    exact lp1 h ys hs hG hf0 10 0 rfl (by decide) (Or.inl rfl)
  refine v_lload_n X (dk D_Rf_giveNumber 0 rfl) rfl ?_
  refine v_lstore_n (lb := [some (.ref 1003), some (.long x.toInt64), none, some (.long x.toInt64), none, none, none]) X (dk D_Rf_giveNumber 1 rfl) (by decide) rfl ?_
  refine v_lload_n X (dk D_Rf_giveNumber 2 rfl) rfl ?_
  refine v_lconst (v := 0) X (dk D_Rf_giveNumber 3 rfl) (by decide) ?_
  refine v_lcmp X (dk D_Rf_giveNumber 4 rfl) ?_
  refine v_if_ge (tgt := 17) X (dk D_Rf_giveNumber 5 rfl) (by decide) (fun c5 => ?_) (fun c5 => ?_)
  · have hx0 : ¬ x < 0 := fun z => by rw [lg_cmp_ge] at c5; exact absurd (i2l_lt.mpr z) (Int64.not_lt.mpr c5)
    have hga := mid g F (rs.rf _ _ _) hE (by rw [decB, if_neg hx0, ← haa])
    rw [show lN a = x.toInt64 from by rw [haa, ← i2l_abs hx0]] at hga
    exact hga
  · refine v_aload_n X (dk D_Rf_giveNumber 6 rfl) rfl ?_
    refine v_bipush (v := 45) X (dk D_Rf_giveNumber 7 rfl) (by decide) ?_
    refine v_invV (As := [.int 45]) (st := []) X (r_give l q (x := 45) hS hI hE) (dk D_Rf_giveNumber 8 rfl) G_Rf_145 K_Rf_give V_Rf_give rfl rfl (hS.lt (by decide)) rfl rfl (Nat.le_of_ble_eq_true rfl) (Nat.le_of_ble_eq_true rfl) (Nat.le_of_ble_eq_true rfl) (Nat.le_of_ble_eq_true rfl) (Nat.le_of_ble_eq_true rfl) ?_
    rintro v w ⟨rfl, a1, a2⟩
    show Vv _ _ _ _ _ _ _ _ _ _ _ _ _ _ _ [] (0, 0, w.2.2)
    refine v_lload_n X (dk D_Rf_giveNumber 9 rfl) rfl ?_
    refine v_lneg X (dk D_Rf_giveNumber 10 rfl) ?_
    refine v_lstore_n (lb := [some (.ref 1003), some (.long x.toInt64), none, some (.long (-x.toInt64)), none, none, none]) X (dk D_Rf_giveNumber 11 rfl) (by decide) rfl ?_
    have hx0 : x < 0 := by rw [lg_cmp_ge] at c5; exact i2l_lt.mp (Int64.not_le.mp c5)
    rw [i2l_neg hx0, ← haa]
    exact mid _ _ a1 a2 (by rw [decB, if_pos hx0, ← haa, List.append_assoc]; rfl)
