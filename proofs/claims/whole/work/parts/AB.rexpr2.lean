/-! the reference: expressions: an operand; evaluate -/
theorem ofO_c {x y : Int32} {vs : List Int32} {ws : List Nat} {dv : Bool} (h : x = 43 ∨ x = 45 ∨ x = 126 ∨ x = 33) : rck 11 (fO x :: ws) (y :: vs) dv = rck 11 ws (ofO (fO x) y :: vs) dv := by
  rw [rck_c]
  rcases h with rfl | rfl | rfl | rfl
  · rw [if_neg (by decide +kernel), if_pos (by decide)]
  · rw [if_neg (by decide +kernel), if_pos (by decide)]
  · rw [if_neg (by decide +kernel), if_pos (by decide)]
  · rw [if_neg (by decide +kernel), if_pos (by decide)]
theorem frn_fO {x : Int32} {ws : List Nat} : frn (fO x :: ws) = frn ws + 1 := by
  rw [frn, if_pos (by rw [fO]; split; decide; split; decide; split; decide; split; decide; decide), Nat.add_comm]
set_option maxHeartbeats 4000000 in
set_option maxRecDepth 100000 in
theorem r_unary1 (l : Launch) (q : ev_T) {n D : Nat} (hU : n < 30 → ∃ d, d + 2 ≤ D ∧ 3 ≤ d ∧ UC l q (n + 1) d) (hD : 3 ≤ D) (hn : n ≤ 30) : UC l q n D := by
  intro g st p m u dv hS hK0 hp hm
  refine Ctr.mk (lb := [some (.ref 1003), none, none, none]) (by decide +kernel) (Nat.le_of_ble_eq_true rfl) rfl rfl ?_
  intro pp ee ss mm aa bb mt cd X hrt hlk hnm
  have hst0 := hK0.2.1.2.2.2.1
  have ret43 : ∀ (y : Int32) (h : mu_T), UP g h n m st u p dv (some (.int (ofO (fO 43) y))) → Vv pp l ee (rmT D 0 0) ss mm aa bb mt cd 4 q (MQ bb (Qw q (fun v w => UP g w.2.2 n m st u p dv v)) aa ss 0 0 (fun a => q.1 ≤ a)) 197 [some (.ref 1003), some (.int 43), some (.int 0), some (.int y)] [] (0, 0, h) := by
    intro y h hQ
    refine v_iload_n X (dk D_Rf_unary 106 rfl) rfl ?_
    refine v_bipush (v := 43) X (dk D_Rf_unary 107 rfl) (by decide) ?_
    refine v_icmp_ne (tgt := 207) X (dk D_Rf_unary 108 rfl) (by decide) (fun c200 => absurd rfl c200) (fun _ => ?_)
    refine v_iload_n X (dk D_Rf_unary 109 rfl) rfl ?_
    refine v_goto (tgt := 239) X (dk D_Rf_unary 110 rfl) (by decide) ?_
    exact v_iret X hlk hrt (dk D_Rf_unary 129 rfl) hQ
  have ret45 : ∀ (y : Int32) (h : mu_T), UP g h n m st u p dv (some (.int (ofO (fO 45) y))) → Vv pp l ee (rmT D 0 0) ss mm aa bb mt cd 4 q (MQ bb (Qw q (fun v w => UP g w.2.2 n m st u p dv v)) aa ss 0 0 (fun a => q.1 ≤ a)) 197 [some (.ref 1003), some (.int 45), some (.int 0), some (.int y)] [] (0, 0, h) := by
    intro y h hQ
    refine v_iload_n X (dk D_Rf_unary 106 rfl) rfl ?_
    refine v_bipush (v := 43) X (dk D_Rf_unary 107 rfl) (by decide) ?_
    refine v_icmp_ne (tgt := 207) X (dk D_Rf_unary 108 rfl) (by decide) (fun _ => ?_) (fun c200 => absurd c200 (by decide))
    refine v_iload_n X (dk D_Rf_unary 111 rfl) rfl ?_
    refine v_bipush (v := 45) X (dk D_Rf_unary 112 rfl) (by decide) ?_
    refine v_icmp_ne (tgt := 218) X (dk D_Rf_unary 113 rfl) (by decide) (fun c210 => absurd rfl c210) (fun _ => ?_)
    refine v_iload_n X (dk D_Rf_unary 114 rfl) rfl ?_
    refine v_ineg X (dk D_Rf_unary 115 rfl) ?_
    refine v_goto (tgt := 239) X (dk D_Rf_unary 116 rfl) (by decide) ?_
    exact v_iret X hlk hrt (dk D_Rf_unary 129 rfl) hQ
  have ret126 : ∀ (y : Int32) (h : mu_T), UP g h n m st u p dv (some (.int (ofO (fO 126) y))) → Vv pp l ee (rmT D 0 0) ss mm aa bb mt cd 4 q (MQ bb (Qw q (fun v w => UP g w.2.2 n m st u p dv v)) aa ss 0 0 (fun a => q.1 ≤ a)) 197 [some (.ref 1003), some (.int 126), some (.int 0), some (.int y)] [] (0, 0, h) := by
    intro y h hQ
    refine v_iload_n X (dk D_Rf_unary 106 rfl) rfl ?_
    refine v_bipush (v := 43) X (dk D_Rf_unary 107 rfl) (by decide) ?_
    refine v_icmp_ne (tgt := 207) X (dk D_Rf_unary 108 rfl) (by decide) (fun _ => ?_) (fun c200 => absurd c200 (by decide))
    refine v_iload_n X (dk D_Rf_unary 111 rfl) rfl ?_
    refine v_bipush (v := 45) X (dk D_Rf_unary 112 rfl) (by decide) ?_
    refine v_icmp_ne (tgt := 218) X (dk D_Rf_unary 113 rfl) (by decide) (fun _ => ?_) (fun c210 => absurd c210 (by decide))
    refine v_iload_n X (dk D_Rf_unary 117 rfl) rfl ?_
    refine v_bipush (v := 126) X (dk D_Rf_unary 118 rfl) (by decide) ?_
    refine v_icmp_ne (tgt := 230) X (dk D_Rf_unary 119 rfl) (by decide) (fun c221 => absurd rfl c221) (fun _ => ?_)
    refine v_iload_n X (dk D_Rf_unary 120 rfl) rfl ?_
    refine v_iconst (v := -1) X (dk D_Rf_unary 121 rfl) (by decide) ?_
    refine v_ixor X (dk D_Rf_unary 122 rfl) ?_
    refine v_goto (tgt := 239) X (dk D_Rf_unary 123 rfl) (by decide) ?_
    exact v_iret X hlk hrt (dk D_Rf_unary 129 rfl) hQ
  have ret33 : ∀ (y : Int32) (h : mu_T), UP g h n m st u p dv (some (.int (ofO (fO 33) y))) → Vv pp l ee (rmT D 0 0) ss mm aa bb mt cd 4 q (MQ bb (Qw q (fun v w => UP g w.2.2 n m st u p dv v)) aa ss 0 0 (fun a => q.1 ≤ a)) 197 [some (.ref 1003), some (.int 33), some (.int 0), some (.int y)] [] (0, 0, h) := by
    intro y h hQ
    by_cases hz : y = 0
    · skip
      refine v_iload_n X (dk D_Rf_unary 106 rfl) rfl ?_
      refine v_bipush (v := 43) X (dk D_Rf_unary 107 rfl) (by decide) ?_
      refine v_icmp_ne (tgt := 207) X (dk D_Rf_unary 108 rfl) (by decide) (fun _ => ?_) (fun c200 => absurd c200 (by decide))
      refine v_iload_n X (dk D_Rf_unary 111 rfl) rfl ?_
      refine v_bipush (v := 45) X (dk D_Rf_unary 112 rfl) (by decide) ?_
      refine v_icmp_ne (tgt := 218) X (dk D_Rf_unary 113 rfl) (by decide) (fun _ => ?_) (fun c210 => absurd c210 (by decide))
      refine v_iload_n X (dk D_Rf_unary 117 rfl) rfl ?_
      refine v_bipush (v := 126) X (dk D_Rf_unary 118 rfl) (by decide) ?_
      refine v_icmp_ne (tgt := 230) X (dk D_Rf_unary 119 rfl) (by decide) (fun _ => ?_) (fun c221 => absurd c221 (by decide))
      refine v_iload_n X (dk D_Rf_unary 124 rfl) rfl ?_
      refine v_if_ne (tgt := 238) X (dk D_Rf_unary 125 rfl) (by decide) (fun c231 => absurd hz c231) (fun _ => ?_)
      refine v_iconst (v := 1) X (dk D_Rf_unary 126 rfl) (by decide) ?_
      refine v_goto (tgt := 239) X (dk D_Rf_unary 127 rfl) (by decide) ?_
      exact v_iret X hlk hrt (dk D_Rf_unary 129 rfl) (by rw [show ofO (fO 33) y = 1 from if_pos hz] at hQ; exact hQ)
    · skip
      refine v_iload_n X (dk D_Rf_unary 106 rfl) rfl ?_
      refine v_bipush (v := 43) X (dk D_Rf_unary 107 rfl) (by decide) ?_
      refine v_icmp_ne (tgt := 207) X (dk D_Rf_unary 108 rfl) (by decide) (fun _ => ?_) (fun c200 => absurd c200 (by decide))
      refine v_iload_n X (dk D_Rf_unary 111 rfl) rfl ?_
      refine v_bipush (v := 45) X (dk D_Rf_unary 112 rfl) (by decide) ?_
      refine v_icmp_ne (tgt := 218) X (dk D_Rf_unary 113 rfl) (by decide) (fun _ => ?_) (fun c210 => absurd c210 (by decide))
      refine v_iload_n X (dk D_Rf_unary 117 rfl) rfl ?_
      refine v_bipush (v := 126) X (dk D_Rf_unary 118 rfl) (by decide) ?_
      refine v_icmp_ne (tgt := 230) X (dk D_Rf_unary 119 rfl) (by decide) (fun _ => ?_) (fun c221 => absurd c221 (by decide))
      refine v_iload_n X (dk D_Rf_unary 124 rfl) rfl ?_
      refine v_if_ne (tgt := 238) X (dk D_Rf_unary 125 rfl) (by decide) (fun _ => ?_) (fun c231 => absurd c231 hz)
      refine v_iconst (v := 0) X (dk D_Rf_unary 128 rfl) (by decide) ?_
      exact v_iret X hlk hrt (dk D_Rf_unary 129 rfl) (by rw [show ofO (fO 33) y = 0 from if_neg hz] at hQ; exact hQ)
  have go43 : ∀ (p1 : Nat) (h : mu_T), EK g h n m m st u p1 false dv → p1 < u.length → p ≤ p1 → sgn (u.drop p1) 0 = 43 → (∀ vs ws, evR (u.drop p, vs, ws, true, dv) = evR (u.drop p1, vs, ws, true, dv)) → Vv pp l ee (rmT D 0 0) ss mm aa bb mt cd 4 q (MQ bb (Qw q (fun v w => UP g w.2.2 n m st u p dv v)) aa ss 0 0 (fun a => q.1 ≤ a)) 76 [some (.ref 1003), some (.int 43), some (.int 0), none] [] (0, 0, h) := by
    intro p1 h hK hp1 hpp hx hy
    have hSh := hK.1.S hS
    have hfr : sgn (u.drop p1) 0 = 40 ∨ sgn (u.drop p1) 0 = 43 ∨ sgn (u.drop p1) 0 = 45 ∨ sgn (u.drop p1) 0 = 126 ∨ sgn (u.drop p1) 0 = 33 := by rw [hx]; decide
    have hst9 := hK.2.1.2.2.2.1
    by_cases hn30 : n < 30
    · obtain ⟨d, hd1, hd2, hUn⟩ := hU hn30
      have hK1 : EK g (xI (xI (xI h 1003 39 (nI (st + (p1 + 1)))) 1003 43 (nI (n + 1))) 1003 41 0) (n + 1) m m st u (p1 + 1) false dv := ((hK.at_ (p1 + 1) (by omega)).ns_ (n + 1)).wr_ false
      have hS1 := hK1.1.S hS
      refine v_aload_n X (dk D_Rf_unary 41 rfl) rfl ?_
      refine v_dup X (dk D_Rf_unary 42 rfl) rfl ?_
      refine v_getI X (dk D_Rf_unary 43 rfl) F_Rf_334 rfl rfl (hSh.lt (by decide)) ?_
      rw [hK.2.1.1]
      refine v_iconst (v := 1) X (dk D_Rf_unary 44 rfl) (by decide) ?_
      refine v_iadd X (dk D_Rf_unary 45 rfl) ?_
      rw [nI_1, Nat.add_assoc st p1 1]
      refine v_putI X (dk D_Rf_unary 46 rfl) F_Rf_334 CK_Rf rfl rfl (hSh.lt (by decide)) rfl rfl ?_
      refine v_aload_n X (dk D_Rf_unary 47 rfl) rfl ?_
      refine v_dup X (dk D_Rf_unary 48 rfl) rfl ?_
      refine v_getI X (dk D_Rf_unary 49 rfl) F_Rf_350 rfl rfl (hSh.lt (by decide)) ?_
      rw [gI_nk (by decide), hK.2.2.2.2.1]
      refine v_iconst (v := 1) X (dk D_Rf_unary 50 rfl) (by decide) ?_
      refine v_iadd X (dk D_Rf_unary 51 rfl) ?_
      rw [nI_1]
      refine v_putI X (dk D_Rf_unary 52 rfl) F_Rf_350 CK_Rf rfl rfl (hSh.lt (by decide)) rfl rfl ?_
      refine v_aload_n X (dk D_Rf_unary 53 rfl) rfl ?_
      refine v_aload_n X (dk D_Rf_unary 54 rfl) rfl ?_
      refine v_getI X (dk D_Rf_unary 55 rfl) F_Rf_350 rfl rfl (hSh.lt (by decide)) ?_
      rw [gI_eq]
      refine v_bipush (v := 30) X (dk D_Rf_unary 56 rfl) (by decide) ?_
      refine v_icmp_le (tgt := 110) X (dk D_Rf_unary 57 rfl) (by decide) (fun _ => ?_) (fun c103 => absurd (nI_le (b := 30) (by omega) (by decide)) c103)
      refine v_iconst (v := 0) X (dk D_Rf_unary 60 rfl) (by decide) ?_
      refine v_putI X (dk D_Rf_unary 61 rfl) F_Rf_343 CK_Rf rfl rfl (hSh.lt (by decide)) rfl rfl ?_
      refine v_aload_n X (dk D_Rf_unary 62 rfl) rfl ?_
      refine v_getI X (dk D_Rf_unary 63 rfl) F_Rf_343 rfl rfl (hSh.lt (by decide)) ?_
      refine v_if_eq (tgt := 125) X (dk D_Rf_unary 64 rfl) (by decide) (fun _ => ?_) (fun c118 => absurd (gI_eq _ _ _ _) c118)
      refine v_iload_n X (dk D_Rf_unary 67 rfl) rfl ?_
      refine v_if_eq (tgt := 136) X (dk D_Rf_unary 68 rfl) (by decide) (fun _ => ?_) (fun c126 => absurd rfl c126)
      refine v_aload_n X (dk D_Rf_unary 72 rfl) rfl ?_
      refine v_invV (As := []) (st := []) X (hUn (xI (xI (xI h 1003 39 (nI (st + (p1 + 1)))) 1003 43 (nI (n + 1))) 1003 41 0) st (p1 + 1) m u dv hS1 (hK1.self m) (by omega) (by omega)) (dk D_Rf_unary 73 rfl) G_Rf_363 K_Rf_unary V_Rf_unary rfl rfl (hS1.lt (by decide)) rfl rfl (Nat.le_of_ble_eq_true rfl) (by dsimp only [rmT]; omega) (by dsimp only [rmT]; omega) (Nat.le_of_ble_eq_true rfl) (Nat.le_of_ble_eq_true rfl) ?_
      rintro v1 w1 ⟨y, p3, wr3, dv3, rfl, hK3, hb3, hw3, hn3⟩
      have S3 := hK3.1.S hS1
      show Vv _ _ _ _ _ _ _ _ _ _ _ _ _ _ _ [.int y] (0, 0, w1.2.2)
      refine v_istore_n (lb := [some (.ref 1003), some (.int 43), some (.int 0), some (.int y)]) X (dk D_Rf_unary 74 rfl) (by decide) rfl ?_
      refine v_aload_n X (dk D_Rf_unary 75 rfl) rfl ?_
      refine v_dup X (dk D_Rf_unary 76 rfl) rfl ?_
      refine v_getI X (dk D_Rf_unary 77 rfl) F_Rf_350 rfl rfl (S3.lt (by decide)) ?_
      rw [hK3.2.2.2.2.1]
      refine v_iconst (v := 1) X (dk D_Rf_unary 78 rfl) (by decide) ?_
      refine v_isub X (dk D_Rf_unary 79 rfl) ?_
      rw [show nI (n + 1) - 1 = nI n from pk_sub (a := n + 1) (b := 1) (by omega)]
      refine v_putI X (dk D_Rf_unary 80 rfl) F_Rf_350 CK_Rf rfl rfl (S3.lt (by decide)) rfl rfl ?_
      refine v_iload_n X (dk D_Rf_unary 81 rfl) rfl ?_
      refine v_if_eq (tgt := 197) X (dk D_Rf_unary 82 rfl) (by decide) (fun _ => ?_) (fun c152 => absurd rfl c152)
      exact ret43 y _ ⟨_, p3, wr3, dv3, rfl, ((hK1.tr hK3 (Nat.le_refl _)).ns_ n), by omega, fun z vs ws e => by rw [hy, evFr hfr hp1 (by omega)]; exact hw3 z vs _ (by rw [frn_fO, e]), fun z => ⟨by have := (hn3 z).1; omega, (hn3 z).2.1, fun vs ws e => by rw [hy, evFr hfr hp1 (by omega), (hn3 z).2.2 vs _ (by rw [frn_fO, e]), hx, evU, evU, ofO_c (by decide)]⟩⟩
    · have hK2 : EK g (xI (xI (xI (xI h 1003 39 (nI (st + (p1 + 1)))) 1003 43 (nI (n + 1))) 1003 41 1) 1003 43 (nI n)) n m m st u (p1 + 1) true dv := (((hK.at_ (p1 + 1) (by omega)).ns_ (n + 1)).wr_ true).ns_ n
      refine v_aload_n X (dk D_Rf_unary 41 rfl) rfl ?_
      refine v_dup X (dk D_Rf_unary 42 rfl) rfl ?_
      refine v_getI X (dk D_Rf_unary 43 rfl) F_Rf_334 rfl rfl (hSh.lt (by decide)) ?_
      rw [hK.2.1.1]
      refine v_iconst (v := 1) X (dk D_Rf_unary 44 rfl) (by decide) ?_
      refine v_iadd X (dk D_Rf_unary 45 rfl) ?_
      rw [nI_1, Nat.add_assoc st p1 1]
      refine v_putI X (dk D_Rf_unary 46 rfl) F_Rf_334 CK_Rf rfl rfl (hSh.lt (by decide)) rfl rfl ?_
      refine v_aload_n X (dk D_Rf_unary 47 rfl) rfl ?_
      refine v_dup X (dk D_Rf_unary 48 rfl) rfl ?_
      refine v_getI X (dk D_Rf_unary 49 rfl) F_Rf_350 rfl rfl (hSh.lt (by decide)) ?_
      rw [gI_nk (by decide), hK.2.2.2.2.1]
      refine v_iconst (v := 1) X (dk D_Rf_unary 50 rfl) (by decide) ?_
      refine v_iadd X (dk D_Rf_unary 51 rfl) ?_
      rw [nI_1]
      refine v_putI X (dk D_Rf_unary 52 rfl) F_Rf_350 CK_Rf rfl rfl (hSh.lt (by decide)) rfl rfl ?_
      refine v_aload_n X (dk D_Rf_unary 53 rfl) rfl ?_
      refine v_aload_n X (dk D_Rf_unary 54 rfl) rfl ?_
      refine v_getI X (dk D_Rf_unary 55 rfl) F_Rf_350 rfl rfl (hSh.lt (by decide)) ?_
      rw [gI_eq]
      refine v_bipush (v := 30) X (dk D_Rf_unary 56 rfl) (by decide) ?_
      refine v_icmp_le (tgt := 110) X (dk D_Rf_unary 57 rfl) (by decide) (fun c103 => absurd c103 (fun z => absurd ((nI_leI (b := 30) (by omega) (by decide)).mp z) (by omega))) (fun _ => ?_)
      refine v_iconst (v := 1) X (dk D_Rf_unary 58 rfl) (by decide) ?_
      refine v_goto (tgt := 111) X (dk D_Rf_unary 59 rfl) (by decide) ?_
      refine v_putI X (dk D_Rf_unary 61 rfl) F_Rf_343 CK_Rf rfl rfl (hSh.lt (by decide)) rfl rfl ?_
      refine v_aload_n X (dk D_Rf_unary 62 rfl) rfl ?_
      refine v_getI X (dk D_Rf_unary 63 rfl) F_Rf_343 rfl rfl (hSh.lt (by decide)) ?_
      refine v_if_eq (tgt := 125) X (dk D_Rf_unary 64 rfl) (by decide) (fun c118 => absurd c118 (by rw [gI_eq]; decide)) (fun _ => ?_)
      refine v_iconst (v := 0) X (dk D_Rf_unary 65 rfl) (by decide) ?_
      refine v_goto (tgt := 140) X (dk D_Rf_unary 66 rfl) (by decide) ?_
      refine v_istore_n (lb := [some (.ref 1003), some (.int 43), some (.int 0), some (.int 0)]) X (dk D_Rf_unary 74 rfl) (by decide) rfl ?_
      refine v_aload_n X (dk D_Rf_unary 75 rfl) rfl ?_
      refine v_dup X (dk D_Rf_unary 76 rfl) rfl ?_
      refine v_getI X (dk D_Rf_unary 77 rfl) F_Rf_350 rfl rfl (hSh.lt (by decide)) ?_
      rw [gI_nk (by decide), gI_eq]
      refine v_iconst (v := 1) X (dk D_Rf_unary 78 rfl) (by decide) ?_
      refine v_isub X (dk D_Rf_unary 79 rfl) ?_
      rw [show nI (n + 1) - 1 = nI n from pk_sub (a := n + 1) (b := 1) (by omega)]
      refine v_putI X (dk D_Rf_unary 80 rfl) F_Rf_350 CK_Rf rfl rfl (hSh.lt (by decide)) rfl rfl ?_
      refine v_iload_n X (dk D_Rf_unary 81 rfl) rfl ?_
      refine v_if_eq (tgt := 197) X (dk D_Rf_unary 82 rfl) (by decide) (fun _ => ?_) (fun c152 => absurd rfl c152)
      exact ret43 0 _ ⟨_, p1 + 1, true, dv, rfl, hK2, by omega, fun _ vs ws e => by rw [hy]; exact evFr_no hfr hp1 (by omega), fun z => by cases z⟩
  have go45 : ∀ (p1 : Nat) (h : mu_T), EK g h n m m st u p1 false dv → p1 < u.length → p ≤ p1 → sgn (u.drop p1) 0 = 45 → (∀ vs ws, evR (u.drop p, vs, ws, true, dv) = evR (u.drop p1, vs, ws, true, dv)) → Vv pp l ee (rmT D 0 0) ss mm aa bb mt cd 4 q (MQ bb (Qw q (fun v w => UP g w.2.2 n m st u p dv v)) aa ss 0 0 (fun a => q.1 ≤ a)) 76 [some (.ref 1003), some (.int 45), some (.int 0), none] [] (0, 0, h) := by
    intro p1 h hK hp1 hpp hx hy
    have hSh := hK.1.S hS
    have hfr : sgn (u.drop p1) 0 = 40 ∨ sgn (u.drop p1) 0 = 43 ∨ sgn (u.drop p1) 0 = 45 ∨ sgn (u.drop p1) 0 = 126 ∨ sgn (u.drop p1) 0 = 33 := by rw [hx]; decide
    have hst9 := hK.2.1.2.2.2.1
    by_cases hn30 : n < 30
    · obtain ⟨d, hd1, hd2, hUn⟩ := hU hn30
      have hK1 : EK g (xI (xI (xI h 1003 39 (nI (st + (p1 + 1)))) 1003 43 (nI (n + 1))) 1003 41 0) (n + 1) m m st u (p1 + 1) false dv := ((hK.at_ (p1 + 1) (by omega)).ns_ (n + 1)).wr_ false
      have hS1 := hK1.1.S hS
      refine v_aload_n X (dk D_Rf_unary 41 rfl) rfl ?_
      refine v_dup X (dk D_Rf_unary 42 rfl) rfl ?_
      refine v_getI X (dk D_Rf_unary 43 rfl) F_Rf_334 rfl rfl (hSh.lt (by decide)) ?_
      rw [hK.2.1.1]
      refine v_iconst (v := 1) X (dk D_Rf_unary 44 rfl) (by decide) ?_
      refine v_iadd X (dk D_Rf_unary 45 rfl) ?_
      rw [nI_1, Nat.add_assoc st p1 1]
      refine v_putI X (dk D_Rf_unary 46 rfl) F_Rf_334 CK_Rf rfl rfl (hSh.lt (by decide)) rfl rfl ?_
      refine v_aload_n X (dk D_Rf_unary 47 rfl) rfl ?_
      refine v_dup X (dk D_Rf_unary 48 rfl) rfl ?_
      refine v_getI X (dk D_Rf_unary 49 rfl) F_Rf_350 rfl rfl (hSh.lt (by decide)) ?_
      rw [gI_nk (by decide), hK.2.2.2.2.1]
      refine v_iconst (v := 1) X (dk D_Rf_unary 50 rfl) (by decide) ?_
      refine v_iadd X (dk D_Rf_unary 51 rfl) ?_
      rw [nI_1]
      refine v_putI X (dk D_Rf_unary 52 rfl) F_Rf_350 CK_Rf rfl rfl (hSh.lt (by decide)) rfl rfl ?_
      refine v_aload_n X (dk D_Rf_unary 53 rfl) rfl ?_
      refine v_aload_n X (dk D_Rf_unary 54 rfl) rfl ?_
      refine v_getI X (dk D_Rf_unary 55 rfl) F_Rf_350 rfl rfl (hSh.lt (by decide)) ?_
      rw [gI_eq]
      refine v_bipush (v := 30) X (dk D_Rf_unary 56 rfl) (by decide) ?_
      refine v_icmp_le (tgt := 110) X (dk D_Rf_unary 57 rfl) (by decide) (fun _ => ?_) (fun c103 => absurd (nI_le (b := 30) (by omega) (by decide)) c103)
      refine v_iconst (v := 0) X (dk D_Rf_unary 60 rfl) (by decide) ?_
      refine v_putI X (dk D_Rf_unary 61 rfl) F_Rf_343 CK_Rf rfl rfl (hSh.lt (by decide)) rfl rfl ?_
      refine v_aload_n X (dk D_Rf_unary 62 rfl) rfl ?_
      refine v_getI X (dk D_Rf_unary 63 rfl) F_Rf_343 rfl rfl (hSh.lt (by decide)) ?_
      refine v_if_eq (tgt := 125) X (dk D_Rf_unary 64 rfl) (by decide) (fun _ => ?_) (fun c118 => absurd (gI_eq _ _ _ _) c118)
      refine v_iload_n X (dk D_Rf_unary 67 rfl) rfl ?_
      refine v_if_eq (tgt := 136) X (dk D_Rf_unary 68 rfl) (by decide) (fun _ => ?_) (fun c126 => absurd rfl c126)
      refine v_aload_n X (dk D_Rf_unary 72 rfl) rfl ?_
      refine v_invV (As := []) (st := []) X (hUn (xI (xI (xI h 1003 39 (nI (st + (p1 + 1)))) 1003 43 (nI (n + 1))) 1003 41 0) st (p1 + 1) m u dv hS1 (hK1.self m) (by omega) (by omega)) (dk D_Rf_unary 73 rfl) G_Rf_363 K_Rf_unary V_Rf_unary rfl rfl (hS1.lt (by decide)) rfl rfl (Nat.le_of_ble_eq_true rfl) (by dsimp only [rmT]; omega) (by dsimp only [rmT]; omega) (Nat.le_of_ble_eq_true rfl) (Nat.le_of_ble_eq_true rfl) ?_
      rintro v1 w1 ⟨y, p3, wr3, dv3, rfl, hK3, hb3, hw3, hn3⟩
      have S3 := hK3.1.S hS1
      show Vv _ _ _ _ _ _ _ _ _ _ _ _ _ _ _ [.int y] (0, 0, w1.2.2)
      refine v_istore_n (lb := [some (.ref 1003), some (.int 45), some (.int 0), some (.int y)]) X (dk D_Rf_unary 74 rfl) (by decide) rfl ?_
      refine v_aload_n X (dk D_Rf_unary 75 rfl) rfl ?_
      refine v_dup X (dk D_Rf_unary 76 rfl) rfl ?_
      refine v_getI X (dk D_Rf_unary 77 rfl) F_Rf_350 rfl rfl (S3.lt (by decide)) ?_
      rw [hK3.2.2.2.2.1]
      refine v_iconst (v := 1) X (dk D_Rf_unary 78 rfl) (by decide) ?_
      refine v_isub X (dk D_Rf_unary 79 rfl) ?_
      rw [show nI (n + 1) - 1 = nI n from pk_sub (a := n + 1) (b := 1) (by omega)]
      refine v_putI X (dk D_Rf_unary 80 rfl) F_Rf_350 CK_Rf rfl rfl (S3.lt (by decide)) rfl rfl ?_
      refine v_iload_n X (dk D_Rf_unary 81 rfl) rfl ?_
      refine v_if_eq (tgt := 197) X (dk D_Rf_unary 82 rfl) (by decide) (fun _ => ?_) (fun c152 => absurd rfl c152)
      exact ret45 y _ ⟨_, p3, wr3, dv3, rfl, ((hK1.tr hK3 (Nat.le_refl _)).ns_ n), by omega, fun z vs ws e => by rw [hy, evFr hfr hp1 (by omega)]; exact hw3 z vs _ (by rw [frn_fO, e]), fun z => ⟨by have := (hn3 z).1; omega, (hn3 z).2.1, fun vs ws e => by rw [hy, evFr hfr hp1 (by omega), (hn3 z).2.2 vs _ (by rw [frn_fO, e]), hx, evU, evU, ofO_c (by decide)]⟩⟩
    · have hK2 : EK g (xI (xI (xI (xI h 1003 39 (nI (st + (p1 + 1)))) 1003 43 (nI (n + 1))) 1003 41 1) 1003 43 (nI n)) n m m st u (p1 + 1) true dv := (((hK.at_ (p1 + 1) (by omega)).ns_ (n + 1)).wr_ true).ns_ n
      refine v_aload_n X (dk D_Rf_unary 41 rfl) rfl ?_
      refine v_dup X (dk D_Rf_unary 42 rfl) rfl ?_
      refine v_getI X (dk D_Rf_unary 43 rfl) F_Rf_334 rfl rfl (hSh.lt (by decide)) ?_
      rw [hK.2.1.1]
      refine v_iconst (v := 1) X (dk D_Rf_unary 44 rfl) (by decide) ?_
      refine v_iadd X (dk D_Rf_unary 45 rfl) ?_
      rw [nI_1, Nat.add_assoc st p1 1]
      refine v_putI X (dk D_Rf_unary 46 rfl) F_Rf_334 CK_Rf rfl rfl (hSh.lt (by decide)) rfl rfl ?_
      refine v_aload_n X (dk D_Rf_unary 47 rfl) rfl ?_
      refine v_dup X (dk D_Rf_unary 48 rfl) rfl ?_
      refine v_getI X (dk D_Rf_unary 49 rfl) F_Rf_350 rfl rfl (hSh.lt (by decide)) ?_
      rw [gI_nk (by decide), hK.2.2.2.2.1]
      refine v_iconst (v := 1) X (dk D_Rf_unary 50 rfl) (by decide) ?_
      refine v_iadd X (dk D_Rf_unary 51 rfl) ?_
      rw [nI_1]
      refine v_putI X (dk D_Rf_unary 52 rfl) F_Rf_350 CK_Rf rfl rfl (hSh.lt (by decide)) rfl rfl ?_
      refine v_aload_n X (dk D_Rf_unary 53 rfl) rfl ?_
      refine v_aload_n X (dk D_Rf_unary 54 rfl) rfl ?_
      refine v_getI X (dk D_Rf_unary 55 rfl) F_Rf_350 rfl rfl (hSh.lt (by decide)) ?_
      rw [gI_eq]
      refine v_bipush (v := 30) X (dk D_Rf_unary 56 rfl) (by decide) ?_
      refine v_icmp_le (tgt := 110) X (dk D_Rf_unary 57 rfl) (by decide) (fun c103 => absurd c103 (fun z => absurd ((nI_leI (b := 30) (by omega) (by decide)).mp z) (by omega))) (fun _ => ?_)
      refine v_iconst (v := 1) X (dk D_Rf_unary 58 rfl) (by decide) ?_
      refine v_goto (tgt := 111) X (dk D_Rf_unary 59 rfl) (by decide) ?_
      refine v_putI X (dk D_Rf_unary 61 rfl) F_Rf_343 CK_Rf rfl rfl (hSh.lt (by decide)) rfl rfl ?_
      refine v_aload_n X (dk D_Rf_unary 62 rfl) rfl ?_
      refine v_getI X (dk D_Rf_unary 63 rfl) F_Rf_343 rfl rfl (hSh.lt (by decide)) ?_
      refine v_if_eq (tgt := 125) X (dk D_Rf_unary 64 rfl) (by decide) (fun c118 => absurd c118 (by rw [gI_eq]; decide)) (fun _ => ?_)
      refine v_iconst (v := 0) X (dk D_Rf_unary 65 rfl) (by decide) ?_
      refine v_goto (tgt := 140) X (dk D_Rf_unary 66 rfl) (by decide) ?_
      refine v_istore_n (lb := [some (.ref 1003), some (.int 45), some (.int 0), some (.int 0)]) X (dk D_Rf_unary 74 rfl) (by decide) rfl ?_
      refine v_aload_n X (dk D_Rf_unary 75 rfl) rfl ?_
      refine v_dup X (dk D_Rf_unary 76 rfl) rfl ?_
      refine v_getI X (dk D_Rf_unary 77 rfl) F_Rf_350 rfl rfl (hSh.lt (by decide)) ?_
      rw [gI_nk (by decide), gI_eq]
      refine v_iconst (v := 1) X (dk D_Rf_unary 78 rfl) (by decide) ?_
      refine v_isub X (dk D_Rf_unary 79 rfl) ?_
      rw [show nI (n + 1) - 1 = nI n from pk_sub (a := n + 1) (b := 1) (by omega)]
      refine v_putI X (dk D_Rf_unary 80 rfl) F_Rf_350 CK_Rf rfl rfl (hSh.lt (by decide)) rfl rfl ?_
      refine v_iload_n X (dk D_Rf_unary 81 rfl) rfl ?_
      refine v_if_eq (tgt := 197) X (dk D_Rf_unary 82 rfl) (by decide) (fun _ => ?_) (fun c152 => absurd rfl c152)
      exact ret45 0 _ ⟨_, p1 + 1, true, dv, rfl, hK2, by omega, fun _ vs ws e => by rw [hy]; exact evFr_no hfr hp1 (by omega), fun z => by cases z⟩
  have go126 : ∀ (p1 : Nat) (h : mu_T), EK g h n m m st u p1 false dv → p1 < u.length → p ≤ p1 → sgn (u.drop p1) 0 = 126 → (∀ vs ws, evR (u.drop p, vs, ws, true, dv) = evR (u.drop p1, vs, ws, true, dv)) → Vv pp l ee (rmT D 0 0) ss mm aa bb mt cd 4 q (MQ bb (Qw q (fun v w => UP g w.2.2 n m st u p dv v)) aa ss 0 0 (fun a => q.1 ≤ a)) 76 [some (.ref 1003), some (.int 126), some (.int 0), none] [] (0, 0, h) := by
    intro p1 h hK hp1 hpp hx hy
    have hSh := hK.1.S hS
    have hfr : sgn (u.drop p1) 0 = 40 ∨ sgn (u.drop p1) 0 = 43 ∨ sgn (u.drop p1) 0 = 45 ∨ sgn (u.drop p1) 0 = 126 ∨ sgn (u.drop p1) 0 = 33 := by rw [hx]; decide
    have hst9 := hK.2.1.2.2.2.1
    by_cases hn30 : n < 30
    · obtain ⟨d, hd1, hd2, hUn⟩ := hU hn30
      have hK1 : EK g (xI (xI (xI h 1003 39 (nI (st + (p1 + 1)))) 1003 43 (nI (n + 1))) 1003 41 0) (n + 1) m m st u (p1 + 1) false dv := ((hK.at_ (p1 + 1) (by omega)).ns_ (n + 1)).wr_ false
      have hS1 := hK1.1.S hS
      refine v_aload_n X (dk D_Rf_unary 41 rfl) rfl ?_
      refine v_dup X (dk D_Rf_unary 42 rfl) rfl ?_
      refine v_getI X (dk D_Rf_unary 43 rfl) F_Rf_334 rfl rfl (hSh.lt (by decide)) ?_
      rw [hK.2.1.1]
      refine v_iconst (v := 1) X (dk D_Rf_unary 44 rfl) (by decide) ?_
      refine v_iadd X (dk D_Rf_unary 45 rfl) ?_
      rw [nI_1, Nat.add_assoc st p1 1]
      refine v_putI X (dk D_Rf_unary 46 rfl) F_Rf_334 CK_Rf rfl rfl (hSh.lt (by decide)) rfl rfl ?_
      refine v_aload_n X (dk D_Rf_unary 47 rfl) rfl ?_
      refine v_dup X (dk D_Rf_unary 48 rfl) rfl ?_
      refine v_getI X (dk D_Rf_unary 49 rfl) F_Rf_350 rfl rfl (hSh.lt (by decide)) ?_
      rw [gI_nk (by decide), hK.2.2.2.2.1]
      refine v_iconst (v := 1) X (dk D_Rf_unary 50 rfl) (by decide) ?_
      refine v_iadd X (dk D_Rf_unary 51 rfl) ?_
      rw [nI_1]
      refine v_putI X (dk D_Rf_unary 52 rfl) F_Rf_350 CK_Rf rfl rfl (hSh.lt (by decide)) rfl rfl ?_
      refine v_aload_n X (dk D_Rf_unary 53 rfl) rfl ?_
      refine v_aload_n X (dk D_Rf_unary 54 rfl) rfl ?_
      refine v_getI X (dk D_Rf_unary 55 rfl) F_Rf_350 rfl rfl (hSh.lt (by decide)) ?_
      rw [gI_eq]
      refine v_bipush (v := 30) X (dk D_Rf_unary 56 rfl) (by decide) ?_
      refine v_icmp_le (tgt := 110) X (dk D_Rf_unary 57 rfl) (by decide) (fun _ => ?_) (fun c103 => absurd (nI_le (b := 30) (by omega) (by decide)) c103)
      refine v_iconst (v := 0) X (dk D_Rf_unary 60 rfl) (by decide) ?_
      refine v_putI X (dk D_Rf_unary 61 rfl) F_Rf_343 CK_Rf rfl rfl (hSh.lt (by decide)) rfl rfl ?_
      refine v_aload_n X (dk D_Rf_unary 62 rfl) rfl ?_
      refine v_getI X (dk D_Rf_unary 63 rfl) F_Rf_343 rfl rfl (hSh.lt (by decide)) ?_
      refine v_if_eq (tgt := 125) X (dk D_Rf_unary 64 rfl) (by decide) (fun _ => ?_) (fun c118 => absurd (gI_eq _ _ _ _) c118)
      refine v_iload_n X (dk D_Rf_unary 67 rfl) rfl ?_
      refine v_if_eq (tgt := 136) X (dk D_Rf_unary 68 rfl) (by decide) (fun _ => ?_) (fun c126 => absurd rfl c126)
      refine v_aload_n X (dk D_Rf_unary 72 rfl) rfl ?_
      refine v_invV (As := []) (st := []) X (hUn (xI (xI (xI h 1003 39 (nI (st + (p1 + 1)))) 1003 43 (nI (n + 1))) 1003 41 0) st (p1 + 1) m u dv hS1 (hK1.self m) (by omega) (by omega)) (dk D_Rf_unary 73 rfl) G_Rf_363 K_Rf_unary V_Rf_unary rfl rfl (hS1.lt (by decide)) rfl rfl (Nat.le_of_ble_eq_true rfl) (by dsimp only [rmT]; omega) (by dsimp only [rmT]; omega) (Nat.le_of_ble_eq_true rfl) (Nat.le_of_ble_eq_true rfl) ?_
      rintro v1 w1 ⟨y, p3, wr3, dv3, rfl, hK3, hb3, hw3, hn3⟩
      have S3 := hK3.1.S hS1
      show Vv _ _ _ _ _ _ _ _ _ _ _ _ _ _ _ [.int y] (0, 0, w1.2.2)
      refine v_istore_n (lb := [some (.ref 1003), some (.int 126), some (.int 0), some (.int y)]) X (dk D_Rf_unary 74 rfl) (by decide) rfl ?_
      refine v_aload_n X (dk D_Rf_unary 75 rfl) rfl ?_
      refine v_dup X (dk D_Rf_unary 76 rfl) rfl ?_
      refine v_getI X (dk D_Rf_unary 77 rfl) F_Rf_350 rfl rfl (S3.lt (by decide)) ?_
      rw [hK3.2.2.2.2.1]
      refine v_iconst (v := 1) X (dk D_Rf_unary 78 rfl) (by decide) ?_
      refine v_isub X (dk D_Rf_unary 79 rfl) ?_
      rw [show nI (n + 1) - 1 = nI n from pk_sub (a := n + 1) (b := 1) (by omega)]
      refine v_putI X (dk D_Rf_unary 80 rfl) F_Rf_350 CK_Rf rfl rfl (S3.lt (by decide)) rfl rfl ?_
      refine v_iload_n X (dk D_Rf_unary 81 rfl) rfl ?_
      refine v_if_eq (tgt := 197) X (dk D_Rf_unary 82 rfl) (by decide) (fun _ => ?_) (fun c152 => absurd rfl c152)
      exact ret126 y _ ⟨_, p3, wr3, dv3, rfl, ((hK1.tr hK3 (Nat.le_refl _)).ns_ n), by omega, fun z vs ws e => by rw [hy, evFr hfr hp1 (by omega)]; exact hw3 z vs _ (by rw [frn_fO, e]), fun z => ⟨by have := (hn3 z).1; omega, (hn3 z).2.1, fun vs ws e => by rw [hy, evFr hfr hp1 (by omega), (hn3 z).2.2 vs _ (by rw [frn_fO, e]), hx, evU, evU, ofO_c (by decide)]⟩⟩
    · have hK2 : EK g (xI (xI (xI (xI h 1003 39 (nI (st + (p1 + 1)))) 1003 43 (nI (n + 1))) 1003 41 1) 1003 43 (nI n)) n m m st u (p1 + 1) true dv := (((hK.at_ (p1 + 1) (by omega)).ns_ (n + 1)).wr_ true).ns_ n
      refine v_aload_n X (dk D_Rf_unary 41 rfl) rfl ?_
      refine v_dup X (dk D_Rf_unary 42 rfl) rfl ?_
      refine v_getI X (dk D_Rf_unary 43 rfl) F_Rf_334 rfl rfl (hSh.lt (by decide)) ?_
      rw [hK.2.1.1]
      refine v_iconst (v := 1) X (dk D_Rf_unary 44 rfl) (by decide) ?_
      refine v_iadd X (dk D_Rf_unary 45 rfl) ?_
      rw [nI_1, Nat.add_assoc st p1 1]
      refine v_putI X (dk D_Rf_unary 46 rfl) F_Rf_334 CK_Rf rfl rfl (hSh.lt (by decide)) rfl rfl ?_
      refine v_aload_n X (dk D_Rf_unary 47 rfl) rfl ?_
      refine v_dup X (dk D_Rf_unary 48 rfl) rfl ?_
      refine v_getI X (dk D_Rf_unary 49 rfl) F_Rf_350 rfl rfl (hSh.lt (by decide)) ?_
      rw [gI_nk (by decide), hK.2.2.2.2.1]
      refine v_iconst (v := 1) X (dk D_Rf_unary 50 rfl) (by decide) ?_
      refine v_iadd X (dk D_Rf_unary 51 rfl) ?_
      rw [nI_1]
      refine v_putI X (dk D_Rf_unary 52 rfl) F_Rf_350 CK_Rf rfl rfl (hSh.lt (by decide)) rfl rfl ?_
      refine v_aload_n X (dk D_Rf_unary 53 rfl) rfl ?_
      refine v_aload_n X (dk D_Rf_unary 54 rfl) rfl ?_
      refine v_getI X (dk D_Rf_unary 55 rfl) F_Rf_350 rfl rfl (hSh.lt (by decide)) ?_
      rw [gI_eq]
      refine v_bipush (v := 30) X (dk D_Rf_unary 56 rfl) (by decide) ?_
      refine v_icmp_le (tgt := 110) X (dk D_Rf_unary 57 rfl) (by decide) (fun c103 => absurd c103 (fun z => absurd ((nI_leI (b := 30) (by omega) (by decide)).mp z) (by omega))) (fun _ => ?_)
      refine v_iconst (v := 1) X (dk D_Rf_unary 58 rfl) (by decide) ?_
      refine v_goto (tgt := 111) X (dk D_Rf_unary 59 rfl) (by decide) ?_
      refine v_putI X (dk D_Rf_unary 61 rfl) F_Rf_343 CK_Rf rfl rfl (hSh.lt (by decide)) rfl rfl ?_
      refine v_aload_n X (dk D_Rf_unary 62 rfl) rfl ?_
      refine v_getI X (dk D_Rf_unary 63 rfl) F_Rf_343 rfl rfl (hSh.lt (by decide)) ?_
      refine v_if_eq (tgt := 125) X (dk D_Rf_unary 64 rfl) (by decide) (fun c118 => absurd c118 (by rw [gI_eq]; decide)) (fun _ => ?_)
      refine v_iconst (v := 0) X (dk D_Rf_unary 65 rfl) (by decide) ?_
      refine v_goto (tgt := 140) X (dk D_Rf_unary 66 rfl) (by decide) ?_
      refine v_istore_n (lb := [some (.ref 1003), some (.int 126), some (.int 0), some (.int 0)]) X (dk D_Rf_unary 74 rfl) (by decide) rfl ?_
      refine v_aload_n X (dk D_Rf_unary 75 rfl) rfl ?_
      refine v_dup X (dk D_Rf_unary 76 rfl) rfl ?_
      refine v_getI X (dk D_Rf_unary 77 rfl) F_Rf_350 rfl rfl (hSh.lt (by decide)) ?_
      rw [gI_nk (by decide), gI_eq]
      refine v_iconst (v := 1) X (dk D_Rf_unary 78 rfl) (by decide) ?_
      refine v_isub X (dk D_Rf_unary 79 rfl) ?_
      rw [show nI (n + 1) - 1 = nI n from pk_sub (a := n + 1) (b := 1) (by omega)]
      refine v_putI X (dk D_Rf_unary 80 rfl) F_Rf_350 CK_Rf rfl rfl (hSh.lt (by decide)) rfl rfl ?_
      refine v_iload_n X (dk D_Rf_unary 81 rfl) rfl ?_
      refine v_if_eq (tgt := 197) X (dk D_Rf_unary 82 rfl) (by decide) (fun _ => ?_) (fun c152 => absurd rfl c152)
      exact ret126 0 _ ⟨_, p1 + 1, true, dv, rfl, hK2, by omega, fun _ vs ws e => by rw [hy]; exact evFr_no hfr hp1 (by omega), fun z => by cases z⟩
  have go33 : ∀ (p1 : Nat) (h : mu_T), EK g h n m m st u p1 false dv → p1 < u.length → p ≤ p1 → sgn (u.drop p1) 0 = 33 → (∀ vs ws, evR (u.drop p, vs, ws, true, dv) = evR (u.drop p1, vs, ws, true, dv)) → Vv pp l ee (rmT D 0 0) ss mm aa bb mt cd 4 q (MQ bb (Qw q (fun v w => UP g w.2.2 n m st u p dv v)) aa ss 0 0 (fun a => q.1 ≤ a)) 76 [some (.ref 1003), some (.int 33), some (.int 0), none] [] (0, 0, h) := by
    intro p1 h hK hp1 hpp hx hy
    have hSh := hK.1.S hS
    have hfr : sgn (u.drop p1) 0 = 40 ∨ sgn (u.drop p1) 0 = 43 ∨ sgn (u.drop p1) 0 = 45 ∨ sgn (u.drop p1) 0 = 126 ∨ sgn (u.drop p1) 0 = 33 := by rw [hx]; decide
    have hst9 := hK.2.1.2.2.2.1
    by_cases hn30 : n < 30
    · obtain ⟨d, hd1, hd2, hUn⟩ := hU hn30
      have hK1 : EK g (xI (xI (xI h 1003 39 (nI (st + (p1 + 1)))) 1003 43 (nI (n + 1))) 1003 41 0) (n + 1) m m st u (p1 + 1) false dv := ((hK.at_ (p1 + 1) (by omega)).ns_ (n + 1)).wr_ false
      have hS1 := hK1.1.S hS
      refine v_aload_n X (dk D_Rf_unary 41 rfl) rfl ?_
      refine v_dup X (dk D_Rf_unary 42 rfl) rfl ?_
      refine v_getI X (dk D_Rf_unary 43 rfl) F_Rf_334 rfl rfl (hSh.lt (by decide)) ?_
      rw [hK.2.1.1]
      refine v_iconst (v := 1) X (dk D_Rf_unary 44 rfl) (by decide) ?_
      refine v_iadd X (dk D_Rf_unary 45 rfl) ?_
      rw [nI_1, Nat.add_assoc st p1 1]
      refine v_putI X (dk D_Rf_unary 46 rfl) F_Rf_334 CK_Rf rfl rfl (hSh.lt (by decide)) rfl rfl ?_
      refine v_aload_n X (dk D_Rf_unary 47 rfl) rfl ?_
      refine v_dup X (dk D_Rf_unary 48 rfl) rfl ?_
      refine v_getI X (dk D_Rf_unary 49 rfl) F_Rf_350 rfl rfl (hSh.lt (by decide)) ?_
      rw [gI_nk (by decide), hK.2.2.2.2.1]
      refine v_iconst (v := 1) X (dk D_Rf_unary 50 rfl) (by decide) ?_
      refine v_iadd X (dk D_Rf_unary 51 rfl) ?_
      rw [nI_1]
      refine v_putI X (dk D_Rf_unary 52 rfl) F_Rf_350 CK_Rf rfl rfl (hSh.lt (by decide)) rfl rfl ?_
      refine v_aload_n X (dk D_Rf_unary 53 rfl) rfl ?_
      refine v_aload_n X (dk D_Rf_unary 54 rfl) rfl ?_
      refine v_getI X (dk D_Rf_unary 55 rfl) F_Rf_350 rfl rfl (hSh.lt (by decide)) ?_
      rw [gI_eq]
      refine v_bipush (v := 30) X (dk D_Rf_unary 56 rfl) (by decide) ?_
      refine v_icmp_le (tgt := 110) X (dk D_Rf_unary 57 rfl) (by decide) (fun _ => ?_) (fun c103 => absurd (nI_le (b := 30) (by omega) (by decide)) c103)
      refine v_iconst (v := 0) X (dk D_Rf_unary 60 rfl) (by decide) ?_
      refine v_putI X (dk D_Rf_unary 61 rfl) F_Rf_343 CK_Rf rfl rfl (hSh.lt (by decide)) rfl rfl ?_
      refine v_aload_n X (dk D_Rf_unary 62 rfl) rfl ?_
      refine v_getI X (dk D_Rf_unary 63 rfl) F_Rf_343 rfl rfl (hSh.lt (by decide)) ?_
      refine v_if_eq (tgt := 125) X (dk D_Rf_unary 64 rfl) (by decide) (fun _ => ?_) (fun c118 => absurd (gI_eq _ _ _ _) c118)
      refine v_iload_n X (dk D_Rf_unary 67 rfl) rfl ?_
      refine v_if_eq (tgt := 136) X (dk D_Rf_unary 68 rfl) (by decide) (fun _ => ?_) (fun c126 => absurd rfl c126)
      refine v_aload_n X (dk D_Rf_unary 72 rfl) rfl ?_
      refine v_invV (As := []) (st := []) X (hUn (xI (xI (xI h 1003 39 (nI (st + (p1 + 1)))) 1003 43 (nI (n + 1))) 1003 41 0) st (p1 + 1) m u dv hS1 (hK1.self m) (by omega) (by omega)) (dk D_Rf_unary 73 rfl) G_Rf_363 K_Rf_unary V_Rf_unary rfl rfl (hS1.lt (by decide)) rfl rfl (Nat.le_of_ble_eq_true rfl) (by dsimp only [rmT]; omega) (by dsimp only [rmT]; omega) (Nat.le_of_ble_eq_true rfl) (Nat.le_of_ble_eq_true rfl) ?_
      rintro v1 w1 ⟨y, p3, wr3, dv3, rfl, hK3, hb3, hw3, hn3⟩
      have S3 := hK3.1.S hS1
      show Vv _ _ _ _ _ _ _ _ _ _ _ _ _ _ _ [.int y] (0, 0, w1.2.2)
      refine v_istore_n (lb := [some (.ref 1003), some (.int 33), some (.int 0), some (.int y)]) X (dk D_Rf_unary 74 rfl) (by decide) rfl ?_
      refine v_aload_n X (dk D_Rf_unary 75 rfl) rfl ?_
      refine v_dup X (dk D_Rf_unary 76 rfl) rfl ?_
      refine v_getI X (dk D_Rf_unary 77 rfl) F_Rf_350 rfl rfl (S3.lt (by decide)) ?_
      rw [hK3.2.2.2.2.1]
      refine v_iconst (v := 1) X (dk D_Rf_unary 78 rfl) (by decide) ?_
      refine v_isub X (dk D_Rf_unary 79 rfl) ?_
      rw [show nI (n + 1) - 1 = nI n from pk_sub (a := n + 1) (b := 1) (by omega)]
      refine v_putI X (dk D_Rf_unary 80 rfl) F_Rf_350 CK_Rf rfl rfl (S3.lt (by decide)) rfl rfl ?_
      refine v_iload_n X (dk D_Rf_unary 81 rfl) rfl ?_
      refine v_if_eq (tgt := 197) X (dk D_Rf_unary 82 rfl) (by decide) (fun _ => ?_) (fun c152 => absurd rfl c152)
      exact ret33 y _ ⟨_, p3, wr3, dv3, rfl, ((hK1.tr hK3 (Nat.le_refl _)).ns_ n), by omega, fun z vs ws e => by rw [hy, evFr hfr hp1 (by omega)]; exact hw3 z vs _ (by rw [frn_fO, e]), fun z => ⟨by have := (hn3 z).1; omega, (hn3 z).2.1, fun vs ws e => by rw [hy, evFr hfr hp1 (by omega), (hn3 z).2.2 vs _ (by rw [frn_fO, e]), hx, evU, evU, ofO_c (by decide)]⟩⟩
    · have hK2 : EK g (xI (xI (xI (xI h 1003 39 (nI (st + (p1 + 1)))) 1003 43 (nI (n + 1))) 1003 41 1) 1003 43 (nI n)) n m m st u (p1 + 1) true dv := (((hK.at_ (p1 + 1) (by omega)).ns_ (n + 1)).wr_ true).ns_ n
      refine v_aload_n X (dk D_Rf_unary 41 rfl) rfl ?_
      refine v_dup X (dk D_Rf_unary 42 rfl) rfl ?_
      refine v_getI X (dk D_Rf_unary 43 rfl) F_Rf_334 rfl rfl (hSh.lt (by decide)) ?_
      rw [hK.2.1.1]
      refine v_iconst (v := 1) X (dk D_Rf_unary 44 rfl) (by decide) ?_
      refine v_iadd X (dk D_Rf_unary 45 rfl) ?_
      rw [nI_1, Nat.add_assoc st p1 1]
      refine v_putI X (dk D_Rf_unary 46 rfl) F_Rf_334 CK_Rf rfl rfl (hSh.lt (by decide)) rfl rfl ?_
      refine v_aload_n X (dk D_Rf_unary 47 rfl) rfl ?_
      refine v_dup X (dk D_Rf_unary 48 rfl) rfl ?_
      refine v_getI X (dk D_Rf_unary 49 rfl) F_Rf_350 rfl rfl (hSh.lt (by decide)) ?_
      rw [gI_nk (by decide), hK.2.2.2.2.1]
      refine v_iconst (v := 1) X (dk D_Rf_unary 50 rfl) (by decide) ?_
      refine v_iadd X (dk D_Rf_unary 51 rfl) ?_
      rw [nI_1]
      refine v_putI X (dk D_Rf_unary 52 rfl) F_Rf_350 CK_Rf rfl rfl (hSh.lt (by decide)) rfl rfl ?_
      refine v_aload_n X (dk D_Rf_unary 53 rfl) rfl ?_
      refine v_aload_n X (dk D_Rf_unary 54 rfl) rfl ?_
      refine v_getI X (dk D_Rf_unary 55 rfl) F_Rf_350 rfl rfl (hSh.lt (by decide)) ?_
      rw [gI_eq]
      refine v_bipush (v := 30) X (dk D_Rf_unary 56 rfl) (by decide) ?_
      refine v_icmp_le (tgt := 110) X (dk D_Rf_unary 57 rfl) (by decide) (fun c103 => absurd c103 (fun z => absurd ((nI_leI (b := 30) (by omega) (by decide)).mp z) (by omega))) (fun _ => ?_)
      refine v_iconst (v := 1) X (dk D_Rf_unary 58 rfl) (by decide) ?_
      refine v_goto (tgt := 111) X (dk D_Rf_unary 59 rfl) (by decide) ?_
      refine v_putI X (dk D_Rf_unary 61 rfl) F_Rf_343 CK_Rf rfl rfl (hSh.lt (by decide)) rfl rfl ?_
      refine v_aload_n X (dk D_Rf_unary 62 rfl) rfl ?_
      refine v_getI X (dk D_Rf_unary 63 rfl) F_Rf_343 rfl rfl (hSh.lt (by decide)) ?_
      refine v_if_eq (tgt := 125) X (dk D_Rf_unary 64 rfl) (by decide) (fun c118 => absurd c118 (by rw [gI_eq]; decide)) (fun _ => ?_)
      refine v_iconst (v := 0) X (dk D_Rf_unary 65 rfl) (by decide) ?_
      refine v_goto (tgt := 140) X (dk D_Rf_unary 66 rfl) (by decide) ?_
      refine v_istore_n (lb := [some (.ref 1003), some (.int 33), some (.int 0), some (.int 0)]) X (dk D_Rf_unary 74 rfl) (by decide) rfl ?_
      refine v_aload_n X (dk D_Rf_unary 75 rfl) rfl ?_
      refine v_dup X (dk D_Rf_unary 76 rfl) rfl ?_
      refine v_getI X (dk D_Rf_unary 77 rfl) F_Rf_350 rfl rfl (hSh.lt (by decide)) ?_
      rw [gI_nk (by decide), gI_eq]
      refine v_iconst (v := 1) X (dk D_Rf_unary 78 rfl) (by decide) ?_
      refine v_isub X (dk D_Rf_unary 79 rfl) ?_
      rw [show nI (n + 1) - 1 = nI n from pk_sub (a := n + 1) (b := 1) (by omega)]
      refine v_putI X (dk D_Rf_unary 80 rfl) F_Rf_350 CK_Rf rfl rfl (hSh.lt (by decide)) rfl rfl ?_
      refine v_iload_n X (dk D_Rf_unary 81 rfl) rfl ?_
      refine v_if_eq (tgt := 197) X (dk D_Rf_unary 82 rfl) (by decide) (fun _ => ?_) (fun c152 => absurd rfl c152)
      exact ret33 0 _ ⟨_, p1 + 1, true, dv, rfl, hK2, by omega, fun _ vs ws e => by rw [hy]; exact evFr_no hfr hp1 (by omega), fun z => by cases z⟩
  have tail : ∀ (wr dv2 : Bool) (p3 : Nat) (y : Int32) (h : mu_T), EK g h n m m st u p3 wr dv2 → p3 ≤ u.length + (30 - n) → (∀ (p4 : Nat) (wr4 : Bool) (w4 : mu_T), EK g w4 n m m st u (p4 + 1) wr4 dv2 → (p4 ≤ u.length ∨ p4 = p3) → u.drop p4 = skB (u.drop p3) → (wr = true ∧ wr4 = true ∨ wr = false ∧ (sgn (u.drop p4) 0 = 41 ∧ wr4 = false ∨ ¬ sgn (u.drop p4) 0 = 41 ∧ wr4 = true)) → UP g w4 n m st u p dv (some (.int y))) → Vv pp l ee (rmT D 0 0) ss mm aa bb mt cd 4 q (MQ bb (Qw q (fun v w => UP g w.2.2 n m st u p dv v)) aa ss 0 0 (fun a => q.1 ≤ a)) 155 [some (.ref 1003), some (.int 40), some (.int 1), some (.int y)] [] (0, 0, h) := by
    intro wr dv2 p3 y h hK hb3 hQ
    have hSh := hK.1.S hS
    by_cases hwr : wr = true
    · skip
      refine v_aload_n X (dk D_Rf_unary 83 rfl) rfl ?_
      refine v_invV (As := []) (st := []) X (r_skipBlanks l q hSh hK.2.1) (dk D_Rf_unary 84 rfl) G_Rf_366 K_Rf_skipBlanks V_Rf_skipBlanks rfl rfl (hSh.lt (by decide)) rfl rfl (Nat.le_of_ble_eq_true rfl) (by dsimp only [rmT]; omega) (by dsimp only [rmT]; omega) (Nat.le_of_ble_eq_true rfl) (Nat.le_of_ble_eq_true rfl) ?_
      rintro v2 w2 ⟨rfl, p4, b1, b2, b3, b4, b5⟩
      have S4 := b1.S hSh
      have hK4 := hK.sk b1 b2
      have hst8 := hK.2.1.2.2.2.1
      show Vv _ _ _ _ _ _ _ _ _ _ _ _ _ _ _ [] (0, 0, w2.2.2)
      refine v_aload_n X (dk D_Rf_unary 85 rfl) rfl ?_
      refine v_aload_n X (dk D_Rf_unary 86 rfl) rfl ?_
      refine v_getI X (dk D_Rf_unary 87 rfl) F_Rf_343 rfl rfl (S4.lt (by decide)) ?_
      refine v_if_ne (tgt := 177) X (dk D_Rf_unary 88 rfl) (by decide) (fun _ => ?_) (fun c164 => absurd c164 (by rw [hK4.2.2.1, hwr]; decide))
      refine v_iconst (v := 1) X (dk D_Rf_unary 94 rfl) (by decide) ?_
      refine v_goto (tgt := 182) X (dk D_Rf_unary 95 rfl) (by decide) ?_
      refine v_putI X (dk D_Rf_unary 97 rfl) F_Rf_343 CK_Rf rfl rfl (S4.lt (by decide)) rfl rfl ?_
      refine v_aload_n X (dk D_Rf_unary 98 rfl) rfl ?_
      refine v_dup X (dk D_Rf_unary 99 rfl) rfl ?_
      refine v_getI X (dk D_Rf_unary 100 rfl) F_Rf_334 rfl rfl (S4.lt (by decide)) ?_
      rw [gI_nk (by decide), b2.1]
      refine v_iconst (v := 1) X (dk D_Rf_unary 101 rfl) (by decide) ?_
      refine v_iadd X (dk D_Rf_unary 102 rfl) ?_
      rw [nI_1, Nat.add_assoc st p4 1]
      refine v_putI X (dk D_Rf_unary 103 rfl) F_Rf_334 CK_Rf rfl rfl (S4.lt (by decide)) rfl rfl ?_
      refine v_iload_n X (dk D_Rf_unary 104 rfl) rfl ?_
      exact v_iret X hlk hrt (dk D_Rf_unary 105 rfl) (hQ p4 true _ ((hK4.wr_ true).at_ (p4 + 1) (by omega)) b4 b5 (Or.inl ⟨hwr, rfl⟩))
    · replace hwr : wr = false := by cases wr; rfl; exact absurd rfl hwr
      refine v_aload_n X (dk D_Rf_unary 83 rfl) rfl ?_
      refine v_invV (As := []) (st := []) X (r_skipBlanks l q hSh hK.2.1) (dk D_Rf_unary 84 rfl) G_Rf_366 K_Rf_skipBlanks V_Rf_skipBlanks rfl rfl (hSh.lt (by decide)) rfl rfl (Nat.le_of_ble_eq_true rfl) (by dsimp only [rmT]; omega) (by dsimp only [rmT]; omega) (Nat.le_of_ble_eq_true rfl) (Nat.le_of_ble_eq_true rfl) ?_
      rintro v2 w2 ⟨rfl, p4, b1, b2, b3, b4, b5⟩
      have S4 := b1.S hSh
      have hK4 := hK.sk b1 b2
      have hst8 := hK.2.1.2.2.2.1
      show Vv _ _ _ _ _ _ _ _ _ _ _ _ _ _ _ [] (0, 0, w2.2.2)
      refine v_aload_n X (dk D_Rf_unary 85 rfl) rfl ?_
      refine v_aload_n X (dk D_Rf_unary 86 rfl) rfl ?_
      refine v_getI X (dk D_Rf_unary 87 rfl) F_Rf_343 rfl rfl (S4.lt (by decide)) ?_
      refine v_if_ne (tgt := 177) X (dk D_Rf_unary 88 rfl) (by decide) (fun c164 => absurd (by rw [hK4.2.2.1, hwr]; rfl) c164) (fun _ => ?_)
      refine v_aload_n X (dk D_Rf_unary 89 rfl) rfl ?_
      refine v_iconst (v := nI 0) X (dk D_Rf_unary 90 rfl) (by decide) ?_
      refine v_invV (As := [.int (nI 0)]) (st := [.ref 1003]) X (r_sign l q (k := 0) S4 b2 (by decide)) (dk D_Rf_unary 91 rfl) G_Rf_340 K_Rf_sign V_Rf_sign rfl rfl (S4.lt (by decide)) rfl rfl (Nat.le_of_ble_eq_true rfl) (by dsimp only [rmT]; omega) (by dsimp only [rmT]; omega) (Nat.le_of_ble_eq_true rfl) (Nat.le_of_ble_eq_true rfl) ?_
      rintro v3 ws ⟨rfl, hws⟩
      rw [hws]
      show Vv _ _ _ _ _ _ _ _ _ _ _ _ _ _ _ [.int (sgn (u.drop p4) 0), .ref 1003] (0, 0, w2.2.2)
      refine v_bipush (v := 41) X (dk D_Rf_unary 92 rfl) (by decide) ?_
      refine v_icmp_eq (tgt := 181) X (dk D_Rf_unary 93 rfl) (by decide) (fun c174 => ?_) (fun c174 => ?_)
      · refine v_iconst (v := 0) X (dk D_Rf_unary 96 rfl) (by decide) ?_
        refine v_putI X (dk D_Rf_unary 97 rfl) F_Rf_343 CK_Rf rfl rfl (S4.lt (by decide)) rfl rfl ?_
        refine v_aload_n X (dk D_Rf_unary 98 rfl) rfl ?_
        refine v_dup X (dk D_Rf_unary 99 rfl) rfl ?_
        refine v_getI X (dk D_Rf_unary 100 rfl) F_Rf_334 rfl rfl (S4.lt (by decide)) ?_
        rw [gI_nk (by decide), b2.1]
        refine v_iconst (v := 1) X (dk D_Rf_unary 101 rfl) (by decide) ?_
        refine v_iadd X (dk D_Rf_unary 102 rfl) ?_
        rw [nI_1, Nat.add_assoc st p4 1]
        refine v_putI X (dk D_Rf_unary 103 rfl) F_Rf_334 CK_Rf rfl rfl (S4.lt (by decide)) rfl rfl ?_
        refine v_iload_n X (dk D_Rf_unary 104 rfl) rfl ?_
        exact v_iret X hlk hrt (dk D_Rf_unary 105 rfl) (hQ p4 false _ ((hK4.wr_ false).at_ (p4 + 1) (by omega)) b4 b5 (Or.inr ⟨hwr, Or.inl ⟨c174, rfl⟩⟩))
      · refine v_iconst (v := 1) X (dk D_Rf_unary 94 rfl) (by decide) ?_
        refine v_goto (tgt := 182) X (dk D_Rf_unary 95 rfl) (by decide) ?_
        refine v_putI X (dk D_Rf_unary 97 rfl) F_Rf_343 CK_Rf rfl rfl (S4.lt (by decide)) rfl rfl ?_
        refine v_aload_n X (dk D_Rf_unary 98 rfl) rfl ?_
        refine v_dup X (dk D_Rf_unary 99 rfl) rfl ?_
        refine v_getI X (dk D_Rf_unary 100 rfl) F_Rf_334 rfl rfl (S4.lt (by decide)) ?_
        rw [gI_nk (by decide), b2.1]
        refine v_iconst (v := 1) X (dk D_Rf_unary 101 rfl) (by decide) ?_
        refine v_iadd X (dk D_Rf_unary 102 rfl) ?_
        rw [nI_1, Nat.add_assoc st p4 1]
        refine v_putI X (dk D_Rf_unary 103 rfl) F_Rf_334 CK_Rf rfl rfl (S4.lt (by decide)) rfl rfl ?_
        refine v_iload_n X (dk D_Rf_unary 104 rfl) rfl ?_
        exact v_iret X hlk hrt (dk D_Rf_unary 105 rfl) (hQ p4 true _ ((hK4.wr_ true).at_ (p4 + 1) (by omega)) b4 b5 (Or.inr ⟨hwr, Or.inr ⟨c174, rfl⟩⟩))
  have go40 : ∀ (p1 : Nat) (h : mu_T), EK g h n m m st u p1 false dv → p1 < u.length → p ≤ p1 → sgn (u.drop p1) 0 = 40 → (∀ vs ws, evR (u.drop p, vs, ws, true, dv) = evR (u.drop p1, vs, ws, true, dv)) → Vv pp l ee (rmT D 0 0) ss mm aa bb mt cd 4 q (MQ bb (Qw q (fun v w => UP g w.2.2 n m st u p dv v)) aa ss 0 0 (fun a => q.1 ≤ a)) 76 [some (.ref 1003), some (.int 40), some (.int 1), none] [] (0, 0, h) := by
    intro p1 h hK hp1 hpp hx hy
    have hSh := hK.1.S hS
    have hfr : sgn (u.drop p1) 0 = 40 ∨ sgn (u.drop p1) 0 = 43 ∨ sgn (u.drop p1) 0 = 45 ∨ sgn (u.drop p1) 0 = 126 ∨ sgn (u.drop p1) 0 = 33 := Or.inl hx
    have hst9 := hK.2.1.2.2.2.1
    by_cases hn30 : n < 30
    · obtain ⟨d, hd1, hd2, hUn⟩ := hU hn30
      have hOn := r_operands l q hUn hd2 (by omega)
      have hK1 : EK g (xI (xI (xI h 1003 39 (nI (st + (p1 + 1)))) 1003 43 (nI (n + 1))) 1003 41 0) (n + 1) m m st u (p1 + 1) false dv := ((hK.at_ (p1 + 1) (by omega)).ns_ (n + 1)).wr_ false
      have hS1 := hK1.1.S hS
      refine v_aload_n X (dk D_Rf_unary 41 rfl) rfl ?_
      refine v_dup X (dk D_Rf_unary 42 rfl) rfl ?_
      refine v_getI X (dk D_Rf_unary 43 rfl) F_Rf_334 rfl rfl (hSh.lt (by decide)) ?_
      rw [hK.2.1.1]
      refine v_iconst (v := 1) X (dk D_Rf_unary 44 rfl) (by decide) ?_
      refine v_iadd X (dk D_Rf_unary 45 rfl) ?_
      rw [nI_1, Nat.add_assoc st p1 1]
      refine v_putI X (dk D_Rf_unary 46 rfl) F_Rf_334 CK_Rf rfl rfl (hSh.lt (by decide)) rfl rfl ?_
      refine v_aload_n X (dk D_Rf_unary 47 rfl) rfl ?_
      refine v_dup X (dk D_Rf_unary 48 rfl) rfl ?_
      refine v_getI X (dk D_Rf_unary 49 rfl) F_Rf_350 rfl rfl (hSh.lt (by decide)) ?_
      rw [gI_nk (by decide), hK.2.2.2.2.1]
      refine v_iconst (v := 1) X (dk D_Rf_unary 50 rfl) (by decide) ?_
      refine v_iadd X (dk D_Rf_unary 51 rfl) ?_
      rw [nI_1]
      refine v_putI X (dk D_Rf_unary 52 rfl) F_Rf_350 CK_Rf rfl rfl (hSh.lt (by decide)) rfl rfl ?_
      refine v_aload_n X (dk D_Rf_unary 53 rfl) rfl ?_
      refine v_aload_n X (dk D_Rf_unary 54 rfl) rfl ?_
      refine v_getI X (dk D_Rf_unary 55 rfl) F_Rf_350 rfl rfl (hSh.lt (by decide)) ?_
      rw [gI_eq]
      refine v_bipush (v := 30) X (dk D_Rf_unary 56 rfl) (by decide) ?_
      refine v_icmp_le (tgt := 110) X (dk D_Rf_unary 57 rfl) (by decide) (fun _ => ?_) (fun c103 => absurd (nI_le (b := 30) (by omega) (by decide)) c103)
      refine v_iconst (v := 0) X (dk D_Rf_unary 60 rfl) (by decide) ?_
      refine v_putI X (dk D_Rf_unary 61 rfl) F_Rf_343 CK_Rf rfl rfl (hSh.lt (by decide)) rfl rfl ?_
      refine v_aload_n X (dk D_Rf_unary 62 rfl) rfl ?_
      refine v_getI X (dk D_Rf_unary 63 rfl) F_Rf_343 rfl rfl (hSh.lt (by decide)) ?_
      refine v_if_eq (tgt := 125) X (dk D_Rf_unary 64 rfl) (by decide) (fun _ => ?_) (fun c118 => absurd (gI_eq _ _ _ _) c118)
      refine v_iload_n X (dk D_Rf_unary 67 rfl) rfl ?_
      refine v_if_eq (tgt := 136) X (dk D_Rf_unary 68 rfl) (by decide) (fun c126 => absurd c126 (by decide)) (fun _ => ?_)
      refine v_aload_n X (dk D_Rf_unary 69 rfl) rfl ?_
      refine v_invV (As := []) (st := []) X (hOn (xI (xI (xI h 1003 39 (nI (st + (p1 + 1)))) 1003 43 (nI (n + 1))) 1003 41 0) st (p1 + 1) m u dv hS1 (hK1.self m) (by omega) (by omega)) (dk D_Rf_unary 70 rfl) G_Rf_356 K_Rf_operands V_Rf_operands rfl rfl (hS1.lt (by decide)) rfl rfl (Nat.le_of_ble_eq_true rfl) (by dsimp only [rmT]; omega) (by dsimp only [rmT]; omega) (Nat.le_of_ble_eq_true rfl) (Nat.le_of_ble_eq_true rfl) ?_
      rintro v1 w1 ⟨y, p3, wr3, dv3, rfl, hK3, hb3, hw3, hn3⟩
      have S3 := hK3.1.S hS1
      show Vv _ _ _ _ _ _ _ _ _ _ _ _ _ _ _ [.int y] (0, 0, w1.2.2)
      refine v_goto (tgt := 140) X (dk D_Rf_unary 71 rfl) (by decide) ?_
      refine v_istore_n (lb := [some (.ref 1003), some (.int 40), some (.int 1), some (.int y)]) X (dk D_Rf_unary 74 rfl) (by decide) rfl ?_
      refine v_aload_n X (dk D_Rf_unary 75 rfl) rfl ?_
      refine v_dup X (dk D_Rf_unary 76 rfl) rfl ?_
      refine v_getI X (dk D_Rf_unary 77 rfl) F_Rf_350 rfl rfl (S3.lt (by decide)) ?_
      rw [hK3.2.2.2.2.1]
      refine v_iconst (v := 1) X (dk D_Rf_unary 78 rfl) (by decide) ?_
      refine v_isub X (dk D_Rf_unary 79 rfl) ?_
      rw [show nI (n + 1) - 1 = nI n from pk_sub (a := n + 1) (b := 1) (by omega)]
      refine v_putI X (dk D_Rf_unary 80 rfl) F_Rf_350 CK_Rf rfl rfl (S3.lt (by decide)) rfl rfl ?_
      refine v_iload_n X (dk D_Rf_unary 81 rfl) rfl ?_
      refine v_if_eq (tgt := 197) X (dk D_Rf_unary 82 rfl) (by decide) (fun c152 => absurd c152 (by decide)) (fun _ => ?_)
      refine tail wr3 dv3 p3 y _ ((hK1.tr hK3 (Nat.le_refl _)).ns_ n) (by omega) (fun p4 wr4 w4 k1 k2 k3 k4 => ⟨y, p4 + 1, wr4, dv3, rfl, k1, by omega, fun z vs ws e => ?_, fun z => ?_⟩)
      · have e0 : evR (u.drop p, vs, ws, true, dv) = evR (u.drop (p1 + 1), vs, 22 :: ws, true, dv) := by
          rw [hy, evFr hfr hp1 (by omega), hx]; rfl
        rw [e0]
        rcases k4 with ⟨e1, _⟩ | ⟨e1, ⟨_, e2⟩ | ⟨e2, _⟩⟩
        · exact hw3 e1 vs (22 :: ws) (by rw [frn, if_pos (by decide), e, Nat.add_comm]) (Or.inr ⟨ws, rfl⟩)
        · rw [e2] at z; cases z
        · obtain ⟨f1, f2, f3, f4, f5⟩ := hn3 e1
          rw [skB_stop f4] at k3
          obtain ⟨V1, W1, B1, g1, g2⟩ := f5 vs (22 :: ws) (by rw [frn, if_pos (by decide), e, Nat.add_comm]) (Or.inr ⟨ws, rfl⟩)
          rw [g1]
          rw [k3] at e2
          cases hs : u.drop p3 with
          | nil =>
            show evF ([], V1, W1, false, B1) = (38, 0)
            rw [evF, if_neg (by exact Bool.false_ne_true), if_neg (fun z => by rw [g2] at z; cases z.1)]
          | cons b t =>
            rw [hs] at f3 f4 e2
            exact evB_no f3 f4 e2 (fun z => by cases z)
      · rcases k4 with ⟨e1, e2⟩ | ⟨e1, ⟨e2, _⟩ | ⟨_, e2⟩⟩
        · rw [e2] at z; cases z
        · obtain ⟨f1, f2, f3, f4, f5⟩ := hn3 e1
          have hp4 : p4 < u.length := by
            refine Decidable.byContradiction (fun hc => ?_)
            rw [sgn_out (by omega)] at e2
            exact absurd e2 (by decide)
          have h34 : p1 < p4 + 1 := by
            refine Decidable.byContradiction (fun hc => ?_)
            rw [skB_stop f4] at k3
            have h5 := congrArg List.length k3
            rw [List.length_drop, List.length_drop] at h5
            omega
          refine ⟨by omega, by omega, fun vs ws e => ?_⟩
          have e0 : evR (u.drop p, vs, ws, true, dv) = evR (u.drop (p1 + 1), vs, 22 :: ws, true, dv) := by
            rw [hy, evFr hfr hp1 (by omega), hx]; rfl
          obtain ⟨V1, W1, B1, g1, g2⟩ := f5 vs (22 :: ws) (by rw [frn, if_pos (by decide), e, Nat.add_comm]) (Or.inr ⟨ws, rfl⟩)
          rw [skB_stop f4] at k3
          rw [e0, g1, ← k3]
          exact evC e2 g2
        · rw [e2] at z; cases z
    · have hK2 : EK g (xI (xI (xI (xI h 1003 39 (nI (st + (p1 + 1)))) 1003 43 (nI (n + 1))) 1003 41 1) 1003 43 (nI n)) n m m st u (p1 + 1) true dv := (((hK.at_ (p1 + 1) (by omega)).ns_ (n + 1)).wr_ true).ns_ n
      refine v_aload_n X (dk D_Rf_unary 41 rfl) rfl ?_
      refine v_dup X (dk D_Rf_unary 42 rfl) rfl ?_
      refine v_getI X (dk D_Rf_unary 43 rfl) F_Rf_334 rfl rfl (hSh.lt (by decide)) ?_
      rw [hK.2.1.1]
      refine v_iconst (v := 1) X (dk D_Rf_unary 44 rfl) (by decide) ?_
      refine v_iadd X (dk D_Rf_unary 45 rfl) ?_
      rw [nI_1, Nat.add_assoc st p1 1]
      refine v_putI X (dk D_Rf_unary 46 rfl) F_Rf_334 CK_Rf rfl rfl (hSh.lt (by decide)) rfl rfl ?_
      refine v_aload_n X (dk D_Rf_unary 47 rfl) rfl ?_
      refine v_dup X (dk D_Rf_unary 48 rfl) rfl ?_
      refine v_getI X (dk D_Rf_unary 49 rfl) F_Rf_350 rfl rfl (hSh.lt (by decide)) ?_
      rw [gI_nk (by decide), hK.2.2.2.2.1]
      refine v_iconst (v := 1) X (dk D_Rf_unary 50 rfl) (by decide) ?_
      refine v_iadd X (dk D_Rf_unary 51 rfl) ?_
      rw [nI_1]
      refine v_putI X (dk D_Rf_unary 52 rfl) F_Rf_350 CK_Rf rfl rfl (hSh.lt (by decide)) rfl rfl ?_
      refine v_aload_n X (dk D_Rf_unary 53 rfl) rfl ?_
      refine v_aload_n X (dk D_Rf_unary 54 rfl) rfl ?_
      refine v_getI X (dk D_Rf_unary 55 rfl) F_Rf_350 rfl rfl (hSh.lt (by decide)) ?_
      rw [gI_eq]
      refine v_bipush (v := 30) X (dk D_Rf_unary 56 rfl) (by decide) ?_
      refine v_icmp_le (tgt := 110) X (dk D_Rf_unary 57 rfl) (by decide) (fun c103 => absurd c103 (fun z => absurd ((nI_leI (b := 30) (by omega) (by decide)).mp z) (by omega))) (fun _ => ?_)
      refine v_iconst (v := 1) X (dk D_Rf_unary 58 rfl) (by decide) ?_
      refine v_goto (tgt := 111) X (dk D_Rf_unary 59 rfl) (by decide) ?_
      refine v_putI X (dk D_Rf_unary 61 rfl) F_Rf_343 CK_Rf rfl rfl (hSh.lt (by decide)) rfl rfl ?_
      refine v_aload_n X (dk D_Rf_unary 62 rfl) rfl ?_
      refine v_getI X (dk D_Rf_unary 63 rfl) F_Rf_343 rfl rfl (hSh.lt (by decide)) ?_
      refine v_if_eq (tgt := 125) X (dk D_Rf_unary 64 rfl) (by decide) (fun c118 => absurd c118 (by rw [gI_eq]; decide)) (fun _ => ?_)
      refine v_iconst (v := 0) X (dk D_Rf_unary 65 rfl) (by decide) ?_
      refine v_goto (tgt := 140) X (dk D_Rf_unary 66 rfl) (by decide) ?_
      refine v_istore_n (lb := [some (.ref 1003), some (.int 40), some (.int 1), some (.int 0)]) X (dk D_Rf_unary 74 rfl) (by decide) rfl ?_
      refine v_aload_n X (dk D_Rf_unary 75 rfl) rfl ?_
      refine v_dup X (dk D_Rf_unary 76 rfl) rfl ?_
      refine v_getI X (dk D_Rf_unary 77 rfl) F_Rf_350 rfl rfl (hSh.lt (by decide)) ?_
      rw [gI_nk (by decide), gI_eq]
      refine v_iconst (v := 1) X (dk D_Rf_unary 78 rfl) (by decide) ?_
      refine v_isub X (dk D_Rf_unary 79 rfl) ?_
      rw [show nI (n + 1) - 1 = nI n from pk_sub (a := n + 1) (b := 1) (by omega)]
      refine v_putI X (dk D_Rf_unary 80 rfl) F_Rf_350 CK_Rf rfl rfl (hSh.lt (by decide)) rfl rfl ?_
      refine v_iload_n X (dk D_Rf_unary 81 rfl) rfl ?_
      refine v_if_eq (tgt := 197) X (dk D_Rf_unary 82 rfl) (by decide) (fun c152 => absurd c152 (by decide)) (fun _ => ?_)
      exact tail true dv (p1 + 1) 0 _ hK2 (by omega) (fun p4 wr4 w4 k1 k2 k3 k4 => ⟨0, p4 + 1, wr4, dv, rfl, k1, by omega, fun _ vs ws e => by rw [hy]; exact evFr_no hfr hp1 (by omega), fun z => by rcases k4 with ⟨_, e2⟩ | ⟨e1, _⟩; (rw [e2] at z; cases z); cases e1⟩)
  refine v_aload_n X (dk D_Rf_unary 0 rfl) rfl ?_
  refine v_invV (As := []) (st := []) X (r_skipBlanks l q hS hK0.2.1) (dk D_Rf_unary 1 rfl) G_Rf_366 K_Rf_skipBlanks V_Rf_skipBlanks rfl rfl (hS.lt (by decide)) rfl rfl (Nat.le_of_ble_eq_true rfl) (by dsimp only [rmT]; omega) (by dsimp only [rmT]; omega) (Nat.le_of_ble_eq_true rfl) (Nat.le_of_ble_eq_true rfl) ?_
  rintro v2 w2 ⟨rfl, p1, b1, b2, b3, b4, b5⟩
  have S1 := b1.S hS
  have hK1 := hK0.sk b1 b2
  have hns : ¬ isSpc (sgn (u.drop p1) 0) = true := by rw [b5]; exact skB_ns _
  have hy : ∀ vs ws, evR (u.drop p, vs, ws, true, dv) = evR (u.drop p1, vs, ws, true, dv) := fun vs ws => by rw [evR_sk, ← b5]
  have hpu : p1 ≤ u.length := by omega
  show Vv _ _ _ _ _ _ _ _ _ _ _ _ _ _ _ [] (0, 0, w2.2.2)
  refine v_aload_n X (dk D_Rf_unary 2 rfl) rfl ?_
  refine v_iconst (v := nI 0) X (dk D_Rf_unary 3 rfl) (by decide) ?_
  refine v_invV (As := [.int (nI 0)]) (st := []) X (r_sign l q (k := 0) S1 b2 (by decide)) (dk D_Rf_unary 4 rfl) G_Rf_340 K_Rf_sign V_Rf_sign rfl rfl (S1.lt (by decide)) rfl rfl (Nat.le_of_ble_eq_true rfl) (by dsimp only [rmT]; omega) (by dsimp only [rmT]; omega) (Nat.le_of_ble_eq_true rfl) (Nat.le_of_ble_eq_true rfl) ?_
  rintro v3 ws ⟨rfl, hws⟩
  rw [hws]
  show Vv _ _ _ _ _ _ _ _ _ _ _ _ _ _ _ [.int (sgn (u.drop p1) 0)] (0, 0, w2.2.2)
  refine v_istore_n (lb := [some (.ref 1003), some (.int (sgn (u.drop p1) 0)), none, none]) X (dk D_Rf_unary 5 rfl) (by decide) rfl ?_
  skip
  by_cases hdg : isDig (sgn (u.drop p1) 0) = true
  · skip
    refine v_iload_n X (dk D_Rf_unary 6 rfl) rfl ?_
    refine v_invS (As := [.int (sgn (u.drop p1) 0)]) (st := []) X (r_isDigit l q (b := (sgn (u.drop p1) 0)) (g := w2.2.2)) (dk D_Rf_unary 7 rfl) G_Rf_136 K_Rf_isDigit S_Rf_isDigit rfl rfl (Nat.le_of_ble_eq_true rfl) (by dsimp only [rmT]; omega) (by dsimp only [rmT]; omega) (Nat.le_of_ble_eq_true rfl) (Nat.le_of_ble_eq_true rfl) ?_
    rintro v3 ws ⟨rfl, hws⟩
    rw [hws, if_pos hdg]
    show Vv _ _ _ _ _ _ _ _ _ _ _ _ _ _ _ [.int 1] (0, 0, w2.2.2)
    refine v_if_eq (tgt := 22) X (dk D_Rf_unary 8 rfl) (by decide) (fun c14 => absurd c14 (by decide)) (fun _ => ?_)
    refine v_aload_n X (dk D_Rf_unary 9 rfl) rfl ?_
    refine v_invV (As := []) (st := []) X (r_numeral l q S1 b2 hK1.2.2.1 hdg hpu) (dk D_Rf_unary 10 rfl) G_Rf_378 K_Rf_numeral V_Rf_numeral rfl rfl (S1.lt (by decide)) rfl rfl (Nat.le_of_ble_eq_true rfl) (by dsimp only [rmT]; omega) (by dsimp only [rmT]; omega) (Nat.le_of_ble_eq_true rfl) (Nat.le_of_ble_eq_true rfl) ?_
    rintro v3 w3 ⟨x, p2, wr, rfl, a1, a2, a3, a4, a5, a6, a7⟩
    have hK2 : EK g w3.2.2 n m m st u p2 wr dv := ⟨hK1.1.tr (a1.mono (by simp) (by simp)), a2, a3, (a1.2 42 (by decide)).trans hK1.2.2.2.1, (a1.2 43 (by decide)).trans hK1.2.2.2.2.1, (a1.2 44 (by decide)).trans hK1.2.2.2.2.2.1, fun j hj => ⟨(a1.row (by decide) (by decide) j).trans (hK1.2.2.2.2.2.2 j hj).1, (a1.row (by decide) (by decide) j).trans (hK1.2.2.2.2.2.2 j hj).2⟩⟩
    show Vv _ _ _ _ _ _ _ _ _ _ _ _ _ _ _ [.int x] (0, 0, w3.2.2)
    exact v_iret X hlk hrt (dk D_Rf_unary 11 rfl) ⟨x, p2, wr, dv, rfl, hK2, by omega, fun z vs ws e => by rw [hy]; exact evN_no hdg (a6 z), fun z => ⟨by omega, a5, fun vs ws e => by rw [hy, evN hdg (a7 z).1, (a7 z).2.1, (a7 z).2.2]⟩⟩
  by_cases c40 : (sgn (u.drop p1) 0) = 40
  · have hx := c40
    have hlt : p1 < u.length := Decidable.byContradiction (fun hc => by rw [sgn_out (by omega)] at hx; exact absurd hx (by decide))
    refine v_iload_n X (dk D_Rf_unary 6 rfl) rfl ?_
    refine v_invS (As := [.int (sgn (u.drop p1) 0)]) (st := []) X (r_isDigit l q (b := (sgn (u.drop p1) 0)) (g := w2.2.2)) (dk D_Rf_unary 7 rfl) G_Rf_136 K_Rf_isDigit S_Rf_isDigit rfl rfl (Nat.le_of_ble_eq_true rfl) (by dsimp only [rmT]; omega) (by dsimp only [rmT]; omega) (Nat.le_of_ble_eq_true rfl) (Nat.le_of_ble_eq_true rfl) ?_
    rintro v3 ws ⟨rfl, hws⟩
    rw [hws, if_neg hdg]
    show Vv _ _ _ _ _ _ _ _ _ _ _ _ _ _ _ [.int 0] (0, 0, w2.2.2)
    refine v_if_eq (tgt := 22) X (dk D_Rf_unary 8 rfl) (by decide) (fun _ => ?_) (fun c14 => absurd rfl c14)
    refine v_iload_n X (dk D_Rf_unary 12 rfl) rfl ?_
    refine v_bipush (v := 40) X (dk D_Rf_unary 13 rfl) (by decide) ?_
    refine v_icmp_ne (tgt := 32) X (dk D_Rf_unary 14 rfl) (by decide) (fun c25 => absurd hx c25) (fun _ => ?_)
    refine v_iconst (v := 1) X (dk D_Rf_unary 15 rfl) (by decide) ?_
    refine v_goto (tgt := 33) X (dk D_Rf_unary 16 rfl) (by decide) ?_
    refine v_istore_n (lb := [some (.ref 1003), some (.int (sgn (u.drop p1) 0)), some (.int 1), none]) X (dk D_Rf_unary 18 rfl) (by decide) rfl ?_
    refine v_aload_n X (dk D_Rf_unary 19 rfl) rfl ?_
    refine v_getI X (dk D_Rf_unary 20 rfl) F_Rf_343 rfl rfl (S1.lt (by decide)) ?_
    refine v_if_ne (tgt := 69) X (dk D_Rf_unary 21 rfl) (by decide) (fun c38 => absurd hK1.2.2.1 c38) (fun _ => ?_)
    refine v_iload_n X (dk D_Rf_unary 22 rfl) rfl ?_
    refine v_if_ne (tgt := 76) X (dk D_Rf_unary 23 rfl) (by decide) (fun _ => ?_) (fun c42 => absurd c42 (by decide))
    rw [hx]; exact go40 p1 w2.2.2 hK1 hlt b3 hx hy
  by_cases c43 : (sgn (u.drop p1) 0) = 43
  · have hx := c43
    have hlt : p1 < u.length := Decidable.byContradiction (fun hc => by rw [sgn_out (by omega)] at hx; exact absurd hx (by decide))
    refine v_iload_n X (dk D_Rf_unary 6 rfl) rfl ?_
    refine v_invS (As := [.int (sgn (u.drop p1) 0)]) (st := []) X (r_isDigit l q (b := (sgn (u.drop p1) 0)) (g := w2.2.2)) (dk D_Rf_unary 7 rfl) G_Rf_136 K_Rf_isDigit S_Rf_isDigit rfl rfl (Nat.le_of_ble_eq_true rfl) (by dsimp only [rmT]; omega) (by dsimp only [rmT]; omega) (Nat.le_of_ble_eq_true rfl) (Nat.le_of_ble_eq_true rfl) ?_
    rintro v3 ws ⟨rfl, hws⟩
    rw [hws, if_neg hdg]
    show Vv _ _ _ _ _ _ _ _ _ _ _ _ _ _ _ [.int 0] (0, 0, w2.2.2)
    refine v_if_eq (tgt := 22) X (dk D_Rf_unary 8 rfl) (by decide) (fun _ => ?_) (fun c14 => absurd rfl c14)
    refine v_iload_n X (dk D_Rf_unary 12 rfl) rfl ?_
    refine v_bipush (v := 40) X (dk D_Rf_unary 13 rfl) (by decide) ?_
    refine v_icmp_ne (tgt := 32) X (dk D_Rf_unary 14 rfl) (by decide) (fun _ => ?_) (fun c25 => absurd c25 c40)
    refine v_iconst (v := 0) X (dk D_Rf_unary 17 rfl) (by decide) ?_
    refine v_istore_n (lb := [some (.ref 1003), some (.int (sgn (u.drop p1) 0)), some (.int 0), none]) X (dk D_Rf_unary 18 rfl) (by decide) rfl ?_
    refine v_aload_n X (dk D_Rf_unary 19 rfl) rfl ?_
    refine v_getI X (dk D_Rf_unary 20 rfl) F_Rf_343 rfl rfl (S1.lt (by decide)) ?_
    refine v_if_ne (tgt := 69) X (dk D_Rf_unary 21 rfl) (by decide) (fun c38 => absurd hK1.2.2.1 c38) (fun _ => ?_)
    refine v_iload_n X (dk D_Rf_unary 22 rfl) rfl ?_
    refine v_if_ne (tgt := 76) X (dk D_Rf_unary 23 rfl) (by decide) (fun c42 => absurd rfl c42) (fun _ => ?_)
    refine v_iload_n X (dk D_Rf_unary 24 rfl) rfl ?_
    refine v_bipush (v := 43) X (dk D_Rf_unary 25 rfl) (by decide) ?_
    refine v_icmp_eq (tgt := 76) X (dk D_Rf_unary 26 rfl) (by decide) (fun _ => ?_) (fun c48 => absurd hx c48)
    rw [hx]; exact go43 p1 w2.2.2 hK1 hlt b3 hx hy
  by_cases c45 : (sgn (u.drop p1) 0) = 45
  · have hx := c45
    have hlt : p1 < u.length := Decidable.byContradiction (fun hc => by rw [sgn_out (by omega)] at hx; exact absurd hx (by decide))
    refine v_iload_n X (dk D_Rf_unary 6 rfl) rfl ?_
    refine v_invS (As := [.int (sgn (u.drop p1) 0)]) (st := []) X (r_isDigit l q (b := (sgn (u.drop p1) 0)) (g := w2.2.2)) (dk D_Rf_unary 7 rfl) G_Rf_136 K_Rf_isDigit S_Rf_isDigit rfl rfl (Nat.le_of_ble_eq_true rfl) (by dsimp only [rmT]; omega) (by dsimp only [rmT]; omega) (Nat.le_of_ble_eq_true rfl) (Nat.le_of_ble_eq_true rfl) ?_
    rintro v3 ws ⟨rfl, hws⟩
    rw [hws, if_neg hdg]
    show Vv _ _ _ _ _ _ _ _ _ _ _ _ _ _ _ [.int 0] (0, 0, w2.2.2)
    refine v_if_eq (tgt := 22) X (dk D_Rf_unary 8 rfl) (by decide) (fun _ => ?_) (fun c14 => absurd rfl c14)
    refine v_iload_n X (dk D_Rf_unary 12 rfl) rfl ?_
    refine v_bipush (v := 40) X (dk D_Rf_unary 13 rfl) (by decide) ?_
    refine v_icmp_ne (tgt := 32) X (dk D_Rf_unary 14 rfl) (by decide) (fun _ => ?_) (fun c25 => absurd c25 c40)
    refine v_iconst (v := 0) X (dk D_Rf_unary 17 rfl) (by decide) ?_
    refine v_istore_n (lb := [some (.ref 1003), some (.int (sgn (u.drop p1) 0)), some (.int 0), none]) X (dk D_Rf_unary 18 rfl) (by decide) rfl ?_
    refine v_aload_n X (dk D_Rf_unary 19 rfl) rfl ?_
    refine v_getI X (dk D_Rf_unary 20 rfl) F_Rf_343 rfl rfl (S1.lt (by decide)) ?_
    refine v_if_ne (tgt := 69) X (dk D_Rf_unary 21 rfl) (by decide) (fun c38 => absurd hK1.2.2.1 c38) (fun _ => ?_)
    refine v_iload_n X (dk D_Rf_unary 22 rfl) rfl ?_
    refine v_if_ne (tgt := 76) X (dk D_Rf_unary 23 rfl) (by decide) (fun c42 => absurd rfl c42) (fun _ => ?_)
    refine v_iload_n X (dk D_Rf_unary 24 rfl) rfl ?_
    refine v_bipush (v := 43) X (dk D_Rf_unary 25 rfl) (by decide) ?_
    refine v_icmp_eq (tgt := 76) X (dk D_Rf_unary 26 rfl) (by decide) (fun c48 => absurd c48 c43) (fun _ => ?_)
    refine v_iload_n X (dk D_Rf_unary 27 rfl) rfl ?_
    refine v_bipush (v := 45) X (dk D_Rf_unary 28 rfl) (by decide) ?_
    refine v_icmp_eq (tgt := 76) X (dk D_Rf_unary 29 rfl) (by decide) (fun _ => ?_) (fun c54 => absurd hx c54)
    rw [hx]; exact go45 p1 w2.2.2 hK1 hlt b3 hx hy
  by_cases c126 : (sgn (u.drop p1) 0) = 126
  · have hx := c126
    have hlt : p1 < u.length := Decidable.byContradiction (fun hc => by rw [sgn_out (by omega)] at hx; exact absurd hx (by decide))
    refine v_iload_n X (dk D_Rf_unary 6 rfl) rfl ?_
    refine v_invS (As := [.int (sgn (u.drop p1) 0)]) (st := []) X (r_isDigit l q (b := (sgn (u.drop p1) 0)) (g := w2.2.2)) (dk D_Rf_unary 7 rfl) G_Rf_136 K_Rf_isDigit S_Rf_isDigit rfl rfl (Nat.le_of_ble_eq_true rfl) (by dsimp only [rmT]; omega) (by dsimp only [rmT]; omega) (Nat.le_of_ble_eq_true rfl) (Nat.le_of_ble_eq_true rfl) ?_
    rintro v3 ws ⟨rfl, hws⟩
    rw [hws, if_neg hdg]
    show Vv _ _ _ _ _ _ _ _ _ _ _ _ _ _ _ [.int 0] (0, 0, w2.2.2)
    refine v_if_eq (tgt := 22) X (dk D_Rf_unary 8 rfl) (by decide) (fun _ => ?_) (fun c14 => absurd rfl c14)
    refine v_iload_n X (dk D_Rf_unary 12 rfl) rfl ?_
    refine v_bipush (v := 40) X (dk D_Rf_unary 13 rfl) (by decide) ?_
    refine v_icmp_ne (tgt := 32) X (dk D_Rf_unary 14 rfl) (by decide) (fun _ => ?_) (fun c25 => absurd c25 c40)
    refine v_iconst (v := 0) X (dk D_Rf_unary 17 rfl) (by decide) ?_
    refine v_istore_n (lb := [some (.ref 1003), some (.int (sgn (u.drop p1) 0)), some (.int 0), none]) X (dk D_Rf_unary 18 rfl) (by decide) rfl ?_
    refine v_aload_n X (dk D_Rf_unary 19 rfl) rfl ?_
    refine v_getI X (dk D_Rf_unary 20 rfl) F_Rf_343 rfl rfl (S1.lt (by decide)) ?_
    refine v_if_ne (tgt := 69) X (dk D_Rf_unary 21 rfl) (by decide) (fun c38 => absurd hK1.2.2.1 c38) (fun _ => ?_)
    refine v_iload_n X (dk D_Rf_unary 22 rfl) rfl ?_
    refine v_if_ne (tgt := 76) X (dk D_Rf_unary 23 rfl) (by decide) (fun c42 => absurd rfl c42) (fun _ => ?_)
    refine v_iload_n X (dk D_Rf_unary 24 rfl) rfl ?_
    refine v_bipush (v := 43) X (dk D_Rf_unary 25 rfl) (by decide) ?_
    refine v_icmp_eq (tgt := 76) X (dk D_Rf_unary 26 rfl) (by decide) (fun c48 => absurd c48 c43) (fun _ => ?_)
    refine v_iload_n X (dk D_Rf_unary 27 rfl) rfl ?_
    refine v_bipush (v := 45) X (dk D_Rf_unary 28 rfl) (by decide) ?_
    refine v_icmp_eq (tgt := 76) X (dk D_Rf_unary 29 rfl) (by decide) (fun c54 => absurd c54 c45) (fun _ => ?_)
    refine v_iload_n X (dk D_Rf_unary 30 rfl) rfl ?_
    refine v_bipush (v := 126) X (dk D_Rf_unary 31 rfl) (by decide) ?_
    refine v_icmp_eq (tgt := 76) X (dk D_Rf_unary 32 rfl) (by decide) (fun _ => ?_) (fun c60 => absurd hx c60)
    rw [hx]; exact go126 p1 w2.2.2 hK1 hlt b3 hx hy
  by_cases c33 : (sgn (u.drop p1) 0) = 33
  · have hx := c33
    have hlt : p1 < u.length := Decidable.byContradiction (fun hc => by rw [sgn_out (by omega)] at hx; exact absurd hx (by decide))
    refine v_iload_n X (dk D_Rf_unary 6 rfl) rfl ?_
    refine v_invS (As := [.int (sgn (u.drop p1) 0)]) (st := []) X (r_isDigit l q (b := (sgn (u.drop p1) 0)) (g := w2.2.2)) (dk D_Rf_unary 7 rfl) G_Rf_136 K_Rf_isDigit S_Rf_isDigit rfl rfl (Nat.le_of_ble_eq_true rfl) (by dsimp only [rmT]; omega) (by dsimp only [rmT]; omega) (Nat.le_of_ble_eq_true rfl) (Nat.le_of_ble_eq_true rfl) ?_
    rintro v3 ws ⟨rfl, hws⟩
    rw [hws, if_neg hdg]
    show Vv _ _ _ _ _ _ _ _ _ _ _ _ _ _ _ [.int 0] (0, 0, w2.2.2)
    refine v_if_eq (tgt := 22) X (dk D_Rf_unary 8 rfl) (by decide) (fun _ => ?_) (fun c14 => absurd rfl c14)
    refine v_iload_n X (dk D_Rf_unary 12 rfl) rfl ?_
    refine v_bipush (v := 40) X (dk D_Rf_unary 13 rfl) (by decide) ?_
    refine v_icmp_ne (tgt := 32) X (dk D_Rf_unary 14 rfl) (by decide) (fun _ => ?_) (fun c25 => absurd c25 c40)
    refine v_iconst (v := 0) X (dk D_Rf_unary 17 rfl) (by decide) ?_
    refine v_istore_n (lb := [some (.ref 1003), some (.int (sgn (u.drop p1) 0)), some (.int 0), none]) X (dk D_Rf_unary 18 rfl) (by decide) rfl ?_
    refine v_aload_n X (dk D_Rf_unary 19 rfl) rfl ?_
    refine v_getI X (dk D_Rf_unary 20 rfl) F_Rf_343 rfl rfl (S1.lt (by decide)) ?_
    refine v_if_ne (tgt := 69) X (dk D_Rf_unary 21 rfl) (by decide) (fun c38 => absurd hK1.2.2.1 c38) (fun _ => ?_)
    refine v_iload_n X (dk D_Rf_unary 22 rfl) rfl ?_
    refine v_if_ne (tgt := 76) X (dk D_Rf_unary 23 rfl) (by decide) (fun c42 => absurd rfl c42) (fun _ => ?_)
    refine v_iload_n X (dk D_Rf_unary 24 rfl) rfl ?_
    refine v_bipush (v := 43) X (dk D_Rf_unary 25 rfl) (by decide) ?_
    refine v_icmp_eq (tgt := 76) X (dk D_Rf_unary 26 rfl) (by decide) (fun c48 => absurd c48 c43) (fun _ => ?_)
    refine v_iload_n X (dk D_Rf_unary 27 rfl) rfl ?_
    refine v_bipush (v := 45) X (dk D_Rf_unary 28 rfl) (by decide) ?_
    refine v_icmp_eq (tgt := 76) X (dk D_Rf_unary 29 rfl) (by decide) (fun c54 => absurd c54 c45) (fun _ => ?_)
    refine v_iload_n X (dk D_Rf_unary 30 rfl) rfl ?_
    refine v_bipush (v := 126) X (dk D_Rf_unary 31 rfl) (by decide) ?_
    refine v_icmp_eq (tgt := 76) X (dk D_Rf_unary 32 rfl) (by decide) (fun c60 => absurd c60 c126) (fun _ => ?_)
    refine v_iload_n X (dk D_Rf_unary 33 rfl) rfl ?_
    refine v_bipush (v := 33) X (dk D_Rf_unary 34 rfl) (by decide) ?_
    refine v_icmp_eq (tgt := 76) X (dk D_Rf_unary 35 rfl) (by decide) (fun _ => ?_) (fun c66 => absurd hx c66)
    rw [hx]; exact go33 p1 w2.2.2 hK1 hlt b3 hx hy
  · skip
    refine v_iload_n X (dk D_Rf_unary 6 rfl) rfl ?_
    refine v_invS (As := [.int (sgn (u.drop p1) 0)]) (st := []) X (r_isDigit l q (b := (sgn (u.drop p1) 0)) (g := w2.2.2)) (dk D_Rf_unary 7 rfl) G_Rf_136 K_Rf_isDigit S_Rf_isDigit rfl rfl (Nat.le_of_ble_eq_true rfl) (by dsimp only [rmT]; omega) (by dsimp only [rmT]; omega) (Nat.le_of_ble_eq_true rfl) (Nat.le_of_ble_eq_true rfl) ?_
    rintro v3 ws ⟨rfl, hws⟩
    rw [hws, if_neg hdg]
    show Vv _ _ _ _ _ _ _ _ _ _ _ _ _ _ _ [.int 0] (0, 0, w2.2.2)
    refine v_if_eq (tgt := 22) X (dk D_Rf_unary 8 rfl) (by decide) (fun _ => ?_) (fun c14 => absurd rfl c14)
    refine v_iload_n X (dk D_Rf_unary 12 rfl) rfl ?_
    refine v_bipush (v := 40) X (dk D_Rf_unary 13 rfl) (by decide) ?_
    refine v_icmp_ne (tgt := 32) X (dk D_Rf_unary 14 rfl) (by decide) (fun _ => ?_) (fun c25 => absurd c25 c40)
    refine v_iconst (v := 0) X (dk D_Rf_unary 17 rfl) (by decide) ?_
    refine v_istore_n (lb := [some (.ref 1003), some (.int (sgn (u.drop p1) 0)), some (.int 0), none]) X (dk D_Rf_unary 18 rfl) (by decide) rfl ?_
    refine v_aload_n X (dk D_Rf_unary 19 rfl) rfl ?_
    refine v_getI X (dk D_Rf_unary 20 rfl) F_Rf_343 rfl rfl (S1.lt (by decide)) ?_
    refine v_if_ne (tgt := 69) X (dk D_Rf_unary 21 rfl) (by decide) (fun c38 => absurd hK1.2.2.1 c38) (fun _ => ?_)
    refine v_iload_n X (dk D_Rf_unary 22 rfl) rfl ?_
    refine v_if_ne (tgt := 76) X (dk D_Rf_unary 23 rfl) (by decide) (fun c42 => absurd rfl c42) (fun _ => ?_)
    refine v_iload_n X (dk D_Rf_unary 24 rfl) rfl ?_
    refine v_bipush (v := 43) X (dk D_Rf_unary 25 rfl) (by decide) ?_
    refine v_icmp_eq (tgt := 76) X (dk D_Rf_unary 26 rfl) (by decide) (fun c48 => absurd c48 c43) (fun _ => ?_)
    refine v_iload_n X (dk D_Rf_unary 27 rfl) rfl ?_
    refine v_bipush (v := 45) X (dk D_Rf_unary 28 rfl) (by decide) ?_
    refine v_icmp_eq (tgt := 76) X (dk D_Rf_unary 29 rfl) (by decide) (fun c54 => absurd c54 c45) (fun _ => ?_)
    refine v_iload_n X (dk D_Rf_unary 30 rfl) rfl ?_
    refine v_bipush (v := 126) X (dk D_Rf_unary 31 rfl) (by decide) ?_
    refine v_icmp_eq (tgt := 76) X (dk D_Rf_unary 32 rfl) (by decide) (fun c60 => absurd c60 c126) (fun _ => ?_)
    refine v_iload_n X (dk D_Rf_unary 33 rfl) rfl ?_
    refine v_bipush (v := 33) X (dk D_Rf_unary 34 rfl) (by decide) ?_
    refine v_icmp_eq (tgt := 76) X (dk D_Rf_unary 35 rfl) (by decide) (fun c66 => absurd c66 c33) (fun _ => ?_)
    refine v_aload_n X (dk D_Rf_unary 36 rfl) rfl ?_
    refine v_iconst (v := 1) X (dk D_Rf_unary 37 rfl) (by decide) ?_
    refine v_putI X (dk D_Rf_unary 38 rfl) F_Rf_343 CK_Rf rfl rfl (S1.lt (by decide)) rfl rfl ?_
    refine v_iconst (v := 0) X (dk D_Rf_unary 39 rfl) (by decide) ?_
    exact v_iret X hlk hrt (dk D_Rf_unary 40 rfl) ⟨0, p1, true, dv, rfl, hK1.wr_ true, by omega, fun z vs ws e => by rw [hy]; exact evD_no hns hdg c40 c43 c45 c126 c33, fun z => by cases z⟩
theorem r_unary (l : Launch) (q : ev_T) : ∀ (k n : Nat), n + k = 30 → UC l q n (2 * k + 3) := by
  intro k
  induction k with
  | zero => intro n hn; exact r_unary1 l q (fun z => by omega) (by omega) (by omega)
  | succ k ih => intro n hn; exact r_unary1 l q (fun _ => ⟨2 * k + 3, by omega, by omega, ih (n + 1) (by omega)⟩) (by omega) (by omega)
set_option maxHeartbeats 4000000 in
set_option maxRecDepth 100000 in
theorem r_evaluate (l : Launch) (q : ev_T) {fu : Nat} {f : Fr} {r : List Fr} {I : Ip} {F : List Int32} {g : mu_T} (hS : Shp g) (hI : RQ g fu I) (hE : GE g I F) (he : gI g 1003 2 = 0) (hC : AC g f r) : Ctr l q M_Rf_evaluate 65 [.ref 1003, .int (nI (na r))] (0, 0, g) (fun v w => v = none ∧ (((evX (f.2.1.getD 0 [])).1 = 0 ∧ rs g w.2.2 [2, 3, 20, 39, 40, 41, 42, 43, 44] [1010, 1020, 1021] ∧ GE w.2.2 I (F ++ decB (evX (f.2.1.getD 0 [])).2)) ∨ (¬ (evX (f.2.1.getD 0 [])).1 = 0 ∧ rs g w.2.2 [2, 3, 39, 40, 41, 42, 43, 44] [1020, 1021] ∧ gI w.2.2 1003 2 = (evX (f.2.1.getD 0 [])).1 ∧ gI w.2.2 1003 3 = gI g 1003 10))) := by
  have hle := ag_le (f := f) (r := r) 0
  have h16 := hC.1.1.2.2
  have hrow := hC.1.1.arg 0
  have hO := r_operands l q (r_unary l q 30 0 rfl) (by decide) (by decide)
  have z1 : rs g (xI g 1003 39 (nI (stA f r 0))) [39] [] := (rs.rf g _ _).fI (by decide)
  have hS1 := z1.S hS
  have z2 : rs g (xI (xI (xI (xI (xI (xI g 1003 39 (nI (stA f r 0))) 1003 40 (nI (stA f r 0 + (f.2.1.getD 0 []).length))) 1003 41 0) 1003 42 0) 1003 43 0) 1003 44 0) [39, 40, 41, 42, 43, 44] [] := ((((((rs.rf g _ _).fI (by decide)).fI (by decide)).fI (by decide)).fI (by decide)).fI (by decide)).fI (by decide)
  have hS2 := z2.S hS
  have hKe : EK (xI (xI (xI (xI (xI (xI g 1003 39 (nI (stA f r 0))) 1003 40 (nI (stA f r 0 + (f.2.1.getD 0 []).length))) 1003 41 0) 1003 42 0) 1003 43 0) 1003 44 0) (xI (xI (xI (xI (xI (xI g 1003 39 (nI (stA f r 0))) 1003 40 (nI (stA f r 0 + (f.2.1.getD 0 []).length))) 1003 41 0) 1003 42 0) 1003 43 0) 1003 44 0) 0 0 0 (stA f r 0) (f.2.1.getD 0 []) 0 false false := ⟨rs.rf _ _ _, ⟨by rw [gI_nk (by decide), gI_nk (by decide), gI_nk (by decide), gI_nk (by decide), gI_nk (by decide), gI_eq]; rfl, by rw [gI_nk (by decide), gI_nk (by decide), gI_nk (by decide), gI_nk (by decide), gI_eq], fun j hj => (z2.row (by decide) (by decide) _).trans (hrow j hj), by omega, by omega⟩, by rw [gI_nk (by decide), gI_nk (by decide), gI_nk (by decide), gI_eq]; rfl, by rw [gI_nk (by decide), gI_nk (by decide), gI_eq]; rfl, by rw [gI_nk (by decide), gI_eq]; rfl, by rw [gI_eq]; rfl, fun j hj => by omega⟩
  refine Ctr.mk (lb := [some (.ref 1003), some (.int (nI (na r))), none]) (by decide +kernel) (Nat.le_of_ble_eq_true rfl) rfl rfl ?_
  intro pp ee ss mm aa bb mt cd X hrt hlk hnm
  refine v_aload_n X (dk D_Rf_evaluate 0 rfl) rfl ?_
  refine v_aload_n X (dk D_Rf_evaluate 1 rfl) rfl ?_
  refine v_iload_n X (dk D_Rf_evaluate 2 rfl) rfl ?_
  refine v_iconst (v := nI (0 + 1)) X (dk D_Rf_evaluate 3 rfl) (by decide) ?_
  refine v_invV (As := [.int (nI (na r)), .int (nI (0 + 1))]) (st := [.ref 1003]) X (r_argumentAt l q (i := 0) hS hC (by omega)) (dk D_Rf_evaluate 4 rfl) G_Rf_268 K_Rf_argumentAt V_Rf_argumentAt rfl rfl (hS.lt (by decide)) rfl rfl (Nat.le_of_ble_eq_true rfl) (Nat.le_of_ble_eq_true rfl) (Nat.le_of_ble_eq_true rfl) (Nat.le_of_ble_eq_true rfl) (Nat.le_of_ble_eq_true rfl) ?_
  rintro v ws ⟨rfl, hws⟩
  rw [hws]
  show Vv _ _ _ _ _ _ _ _ _ _ _ _ _ _ _ [.int (nI (stA f r 0)), .ref 1003] (0, 0, g)
  refine v_putI X (dk D_Rf_evaluate 5 rfl) F_Rf_334 CK_Rf rfl rfl (hS.lt (by decide)) rfl rfl ?_
  refine v_aload_n X (dk D_Rf_evaluate 6 rfl) rfl ?_
  refine v_aload_n X (dk D_Rf_evaluate 7 rfl) rfl ?_
  refine v_getI X (dk D_Rf_evaluate 8 rfl) F_Rf_334 rfl rfl (hS.lt (by decide)) ?_
  rw [gI_eq]
  refine v_aload_n X (dk D_Rf_evaluate 9 rfl) rfl ?_
  refine v_iload_n X (dk D_Rf_evaluate 10 rfl) rfl ?_
  refine v_iconst (v := nI (0 + 1)) X (dk D_Rf_evaluate 11 rfl) (by decide) ?_
  refine v_invV (As := [.int (nI (na r)), .int (nI (0 + 1))]) (st := [.int (nI (stA f r 0)), .ref 1003]) X (r_argumentSize l q (i := 0) (g := (xI g 1003 39 (nI (stA f r 0)))) hS1 (hC.rs z1 (by decide) (by decide) (by decide)) (by omega)) (dk D_Rf_evaluate 12 rfl) G_Rf_272 K_Rf_argumentSize V_Rf_argumentSize rfl rfl (hS1.lt (by decide)) rfl rfl (Nat.le_of_ble_eq_true rfl) (Nat.le_of_ble_eq_true rfl) (Nat.le_of_ble_eq_true rfl) (Nat.le_of_ble_eq_true rfl) (Nat.le_of_ble_eq_true rfl) ?_
  rintro v ws ⟨rfl, hws⟩
  rw [hws]
  show Vv _ _ _ _ _ _ _ _ _ _ _ _ _ _ _ [.int (nI (f.2.1.getD 0 []).length), .int (nI (stA f r 0)), .ref 1003] (0, 0, (xI g 1003 39 (nI (stA f r 0))))
  refine v_iadd X (dk D_Rf_evaluate 13 rfl) ?_
  rw [nI_add]
  refine v_putI X (dk D_Rf_evaluate 14 rfl) F_Rf_337 CK_Rf rfl rfl (hS.lt (by decide)) rfl rfl ?_
  refine v_aload_n X (dk D_Rf_evaluate 15 rfl) rfl ?_
  refine v_iconst (v := 0) X (dk D_Rf_evaluate 16 rfl) (by decide) ?_
  refine v_putI X (dk D_Rf_evaluate 17 rfl) F_Rf_343 CK_Rf rfl rfl (hS.lt (by decide)) rfl rfl ?_
  refine v_aload_n X (dk D_Rf_evaluate 18 rfl) rfl ?_
  refine v_iconst (v := 0) X (dk D_Rf_evaluate 19 rfl) (by decide) ?_
  refine v_putI X (dk D_Rf_evaluate 20 rfl) F_Rf_347 CK_Rf rfl rfl (hS.lt (by decide)) rfl rfl ?_
  refine v_aload_n X (dk D_Rf_evaluate 21 rfl) rfl ?_
  refine v_iconst (v := 0) X (dk D_Rf_evaluate 22 rfl) (by decide) ?_
  refine v_putI X (dk D_Rf_evaluate 23 rfl) F_Rf_350 CK_Rf rfl rfl (hS.lt (by decide)) rfl rfl ?_
  refine v_aload_n X (dk D_Rf_evaluate 24 rfl) rfl ?_
  refine v_iconst (v := 0) X (dk D_Rf_evaluate 25 rfl) (by decide) ?_
  refine v_putI X (dk D_Rf_evaluate 26 rfl) F_Rf_353 CK_Rf rfl rfl (hS.lt (by decide)) rfl rfl ?_
  refine v_aload_n X (dk D_Rf_evaluate 27 rfl) rfl ?_
  refine v_invV (As := []) (st := []) X (hO (xI (xI (xI (xI (xI (xI g 1003 39 (nI (stA f r 0))) 1003 40 (nI (stA f r 0 + (f.2.1.getD 0 []).length))) 1003 41 0) 1003 42 0) 1003 43 0) 1003 44 0) (stA f r 0) 0 0 (f.2.1.getD 0 []) false hS2 hKe (Nat.zero_le _) (Nat.zero_le _)) (dk D_Rf_evaluate 28 rfl) G_Rf_356 K_Rf_operands V_Rf_operands rfl rfl (hS2.lt (by decide)) rfl rfl (Nat.le_of_ble_eq_true rfl) (Nat.le_of_ble_eq_true rfl) (Nat.le_of_ble_eq_true rfl) (Nat.le_of_ble_eq_true rfl) (Nat.le_of_ble_eq_true rfl) ?_
  rintro v w1 ⟨x, p2, wr, dv2, rfl, hK3, hb3, hw3, hn3⟩
  have S3 := hK3.1.S hS2
  have z3 : rs g w1.2.2 [39, 40, 41, 42, 43, 44] [1020, 1021] := (z2.mono (by simp) (by simp)).tr (hK3.1.mono (by simp) (by simp))
  have e3 : gI w1.2.2 1003 2 = 0 := (z3.2 2 (by decide)).trans he
  have hp2 := hb3
  show Vv _ _ _ _ _ _ _ _ _ _ _ _ _ _ _ [.int x] (0, 0, w1.2.2)
  refine v_istore_n (lb := [some (.ref 1003), some (.int (nI (na r))), some (.int x)]) X (dk D_Rf_evaluate 29 rfl) (by decide) rfl ?_
  skip
  by_cases hwr : wr = true
  · have hev : (evX (f.2.1.getD 0 [])) = (38, 0) := (evX_R _).trans (hw3 hwr [] [] rfl (Or.inl rfl))
    refine v_aload_n X (dk D_Rf_evaluate 30 rfl) rfl ?_
    refine v_getI X (dk D_Rf_evaluate 31 rfl) F_Rf_343 rfl rfl (S3.lt (by decide)) ?_
    refine v_if_ne (tgt := 68) X (dk D_Rf_evaluate 32 rfl) (by decide) (fun _ => ?_) (fun c54 => absurd c54 (by rw [hK3.2.2.1, hwr]; decide))
    refine v_aload_n X (dk D_Rf_evaluate 38 rfl) rfl ?_
    refine v_bipush (v := 38) X (dk D_Rf_evaluate 39 rfl) (by decide) ?_
    refine v_invV (As := [.int 38]) (st := []) X (r_fail1 l q (n := 38) S3) (dk D_Rf_evaluate 40 rfl) G_Rf_84 K_Rf_fail1 V_Rf_fail1 rfl rfl (S3.lt (by decide)) rfl rfl (Nat.le_of_ble_eq_true rfl) (Nat.le_of_ble_eq_true rfl) (Nat.le_of_ble_eq_true rfl) (Nat.le_of_ble_eq_true rfl) (Nat.le_of_ble_eq_true rfl) ?_
    rintro v w2 ⟨rfl, hw⟩
    rw [hw, if_pos e3]
    show Vv _ _ _ _ _ _ _ _ _ _ _ _ _ _ _ [] (0, 0, (xI (xI w1.2.2 1003 2 38) 1003 3 (gI w1.2.2 1003 10)))
    refine v_goto (tgt := 99) X (dk D_Rf_evaluate 41 rfl) (by decide) ?_
    exact v_vret X hlk hrt (dk D_Rf_evaluate 53 rfl) ⟨rfl, Or.inr ⟨by rw [hev]; decide, ((z3.mono (by simp) (by simp)).fI (by decide)).fI (by decide), (gI_nk (by decide)).trans ((gI_eq _ _ _ _).trans (by rw [hev])), (gI_eq _ _ _ _).trans (z3.2 10 (by decide))⟩⟩
  replace hwr : wr = false := by cases wr; rfl; exact absurd rfl hwr
  obtain ⟨f1, f2, f3, f4, f5⟩ := hn3 hwr
  obtain ⟨V1, W1, B1, g1, g2⟩ := f5 [] [] rfl (Or.inl rfl)
  by_cases hpl : p2 < (f.2.1.getD 0 []).length
  · have hev : (evX (f.2.1.getD 0 [])) = (38, 0) := by
      rw [evX_R]
      refine g1.trans ?_
      by_cases c : sgn (((f.2.1.getD 0 [])).drop p2) 0 = 41
      · exact evC_no c (by rw [g2])
      · exact evB_no f3 f4 c (fun z => by have := congrArg List.length z; rw [List.length_drop] at this; exact absurd this (by show ¬ _ = 0; omega))
    refine v_aload_n X (dk D_Rf_evaluate 30 rfl) rfl ?_
    refine v_getI X (dk D_Rf_evaluate 31 rfl) F_Rf_343 rfl rfl (S3.lt (by decide)) ?_
    refine v_if_ne (tgt := 68) X (dk D_Rf_evaluate 32 rfl) (by decide) (fun c54 => absurd (by rw [hK3.2.2.1, hwr]; rfl) c54) (fun _ => ?_)
    refine v_aload_n X (dk D_Rf_evaluate 33 rfl) rfl ?_
    refine v_getI X (dk D_Rf_evaluate 34 rfl) F_Rf_334 rfl rfl (S3.lt (by decide)) ?_
    refine v_aload_n X (dk D_Rf_evaluate 35 rfl) rfl ?_
    refine v_getI X (dk D_Rf_evaluate 36 rfl) F_Rf_337 rfl rfl (S3.lt (by decide)) ?_
    refine v_icmp_ge (tgt := 77) X (dk D_Rf_evaluate 37 rfl) (by decide) (fun c65 => absurd c65 (by rw [hK3.2.1.1, hK3.2.1.2.1]; exact nI_ge (by omega) (by omega))) (fun _ => ?_)
    refine v_aload_n X (dk D_Rf_evaluate 38 rfl) rfl ?_
    refine v_bipush (v := 38) X (dk D_Rf_evaluate 39 rfl) (by decide) ?_
    refine v_invV (As := [.int 38]) (st := []) X (r_fail1 l q (n := 38) S3) (dk D_Rf_evaluate 40 rfl) G_Rf_84 K_Rf_fail1 V_Rf_fail1 rfl rfl (S3.lt (by decide)) rfl rfl (Nat.le_of_ble_eq_true rfl) (Nat.le_of_ble_eq_true rfl) (Nat.le_of_ble_eq_true rfl) (Nat.le_of_ble_eq_true rfl) (Nat.le_of_ble_eq_true rfl) ?_
    rintro v w2 ⟨rfl, hw⟩
    rw [hw, if_pos e3]
    show Vv _ _ _ _ _ _ _ _ _ _ _ _ _ _ _ [] (0, 0, (xI (xI w1.2.2 1003 2 38) 1003 3 (gI w1.2.2 1003 10)))
    refine v_goto (tgt := 99) X (dk D_Rf_evaluate 41 rfl) (by decide) ?_
    exact v_vret X hlk hrt (dk D_Rf_evaluate 53 rfl) ⟨rfl, Or.inr ⟨by rw [hev]; decide, ((z3.mono (by simp) (by simp)).fI (by decide)).fI (by decide), (gI_nk (by decide)).trans ((gI_eq _ _ _ _).trans (by rw [hev])), (gI_eq _ _ _ _).trans (z3.2 10 (by decide))⟩⟩
  have hfin : (evX (f.2.1.getD 0 [])) = evF ([], V1, W1, false, B1) := by
    rw [evX_R]
    refine g1.trans ?_
    rw [List.drop_eq_nil_of_le (by omega)]
    rfl
  rw [evF, if_neg (by exact Bool.false_ne_true), if_pos (by rw [g2]; exact ⟨rfl, rfl⟩), g2] at hfin
  by_cases hdv : dv2 = true
  · have hev : (evX (f.2.1.getD 0 [])) = (39, 0) := hfin.trans (if_pos hdv)
    refine v_aload_n X (dk D_Rf_evaluate 30 rfl) rfl ?_
    refine v_getI X (dk D_Rf_evaluate 31 rfl) F_Rf_343 rfl rfl (S3.lt (by decide)) ?_
    refine v_if_ne (tgt := 68) X (dk D_Rf_evaluate 32 rfl) (by decide) (fun c54 => absurd (by rw [hK3.2.2.1, hwr]; rfl) c54) (fun _ => ?_)
    refine v_aload_n X (dk D_Rf_evaluate 33 rfl) rfl ?_
    refine v_getI X (dk D_Rf_evaluate 34 rfl) F_Rf_334 rfl rfl (S3.lt (by decide)) ?_
    refine v_aload_n X (dk D_Rf_evaluate 35 rfl) rfl ?_
    refine v_getI X (dk D_Rf_evaluate 36 rfl) F_Rf_337 rfl rfl (S3.lt (by decide)) ?_
    refine v_icmp_ge (tgt := 77) X (dk D_Rf_evaluate 37 rfl) (by decide) (fun _ => ?_) (fun c65 => absurd (by rw [hK3.2.1.1, hK3.2.1.2.1]; exact nI_le (by omega) (by omega)) c65)
    refine v_aload_n X (dk D_Rf_evaluate 42 rfl) rfl ?_
    refine v_getI X (dk D_Rf_evaluate 43 rfl) F_Rf_347 rfl rfl (S3.lt (by decide)) ?_
    refine v_if_eq (tgt := 93) X (dk D_Rf_evaluate 44 rfl) (by decide) (fun c81 => absurd c81 (by rw [hK3.2.2.2.1, hdv]; decide)) (fun _ => ?_)
    refine v_aload_n X (dk D_Rf_evaluate 45 rfl) rfl ?_
    refine v_bipush (v := 39) X (dk D_Rf_evaluate 46 rfl) (by decide) ?_
    refine v_invV (As := [.int 39]) (st := []) X (r_fail1 l q (n := 39) S3) (dk D_Rf_evaluate 47 rfl) G_Rf_84 K_Rf_fail1 V_Rf_fail1 rfl rfl (S3.lt (by decide)) rfl rfl (Nat.le_of_ble_eq_true rfl) (Nat.le_of_ble_eq_true rfl) (Nat.le_of_ble_eq_true rfl) (Nat.le_of_ble_eq_true rfl) (Nat.le_of_ble_eq_true rfl) ?_
    rintro v w2 ⟨rfl, hw⟩
    rw [hw, if_pos e3]
    show Vv _ _ _ _ _ _ _ _ _ _ _ _ _ _ _ [] (0, 0, (xI (xI w1.2.2 1003 2 39) 1003 3 (gI w1.2.2 1003 10)))
    refine v_goto (tgt := 99) X (dk D_Rf_evaluate 48 rfl) (by decide) ?_
    exact v_vret X hlk hrt (dk D_Rf_evaluate 53 rfl) ⟨rfl, Or.inr ⟨by rw [hev]; decide, ((z3.mono (by simp) (by simp)).fI (by decide)).fI (by decide), (gI_nk (by decide)).trans ((gI_eq _ _ _ _).trans (by rw [hev])), (gI_eq _ _ _ _).trans (z3.2 10 (by decide))⟩⟩
  have hev : (evX (f.2.1.getD 0 [])) = (0, x) := hfin.trans (if_neg hdv)
  replace hdv : dv2 = false := by cases dv2; rfl; exact absurd rfl hdv
  have hI3 := hI.rs z3 (by decide) (by decide)
  have hE3 := hE.rs z3 (by decide) (by decide) (by decide) (by decide)
  refine v_aload_n X (dk D_Rf_evaluate 30 rfl) rfl ?_
  refine v_getI X (dk D_Rf_evaluate 31 rfl) F_Rf_343 rfl rfl (S3.lt (by decide)) ?_
  refine v_if_ne (tgt := 68) X (dk D_Rf_evaluate 32 rfl) (by decide) (fun c54 => absurd (by rw [hK3.2.2.1, hwr]; rfl) c54) (fun _ => ?_)
  refine v_aload_n X (dk D_Rf_evaluate 33 rfl) rfl ?_
  refine v_getI X (dk D_Rf_evaluate 34 rfl) F_Rf_334 rfl rfl (S3.lt (by decide)) ?_
  refine v_aload_n X (dk D_Rf_evaluate 35 rfl) rfl ?_
  refine v_getI X (dk D_Rf_evaluate 36 rfl) F_Rf_337 rfl rfl (S3.lt (by decide)) ?_
  refine v_icmp_ge (tgt := 77) X (dk D_Rf_evaluate 37 rfl) (by decide) (fun _ => ?_) (fun c65 => absurd (by rw [hK3.2.1.1, hK3.2.1.2.1]; exact nI_le (by omega) (by omega)) c65)
  refine v_aload_n X (dk D_Rf_evaluate 42 rfl) rfl ?_
  refine v_getI X (dk D_Rf_evaluate 43 rfl) F_Rf_347 rfl rfl (S3.lt (by decide)) ?_
  refine v_if_eq (tgt := 93) X (dk D_Rf_evaluate 44 rfl) (by decide) (fun _ => ?_) (fun c81 => absurd (by rw [hK3.2.2.2.1, hdv]; rfl) c81)
  refine v_aload_n X (dk D_Rf_evaluate 49 rfl) rfl ?_
  refine v_iload_n X (dk D_Rf_evaluate 50 rfl) rfl ?_
  refine v_i2l X (dk D_Rf_evaluate 51 rfl) rfl ?_
  refine v_invV (As := [.long x.toInt64]) (st := []) X (r_giveNumber l q (x := x) S3 hI3 hE3) (dk D_Rf_evaluate 52 rfl) G_Rf_278 K_Rf_giveNumber V_Rf_giveNumber rfl rfl (S3.lt (by decide)) rfl rfl (Nat.le_of_ble_eq_true rfl) (Nat.le_of_ble_eq_true rfl) (Nat.le_of_ble_eq_true rfl) (Nat.le_of_ble_eq_true rfl) (Nat.le_of_ble_eq_true rfl) ?_
  rintro v w2 ⟨rfl, a1, a2⟩
  show Vv _ _ _ _ _ _ _ _ _ _ _ _ _ _ _ [] (0, 0, w2.2.2)
  exact v_vret X hlk hrt (dk D_Rf_evaluate 53 rfl) ⟨rfl, Or.inl ⟨by rw [hev], (z3.mono (by simp) (by simp)).tr (a1.mono (by simp) (by simp)), by rw [hev]; exact a2⟩⟩
