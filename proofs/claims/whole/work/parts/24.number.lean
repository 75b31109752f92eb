/-! numbers as bytes -/
def kOf (a : Nat) : Nat := (if a < 10 then 0 else (if a < 100 then 1 else (if a < 1000 then 2 else (if a < 10000 then 3 else (if a < 100000 then 4 else (if a < 1000000 then 5 else (if a < 10000000 then 6 else (if a < 100000000 then 7 else (if a < 1000000000 then 8 else 9)))))))))
theorem kOf_eq {a k : Nat} (hk : k ≤ 9) (h1 : k = 0 ∨ 10 ^ k ≤ a) (h2 : a < 10 ^ (k + 1)) : kOf a = k := by
  rcases (show k = 0 ∨ k = 1 ∨ k = 2 ∨ k = 3 ∨ k = 4 ∨ k = 5 ∨ k = 6 ∨ k = 7 ∨ k = 8 ∨ k = 9 by omega) with rfl | rfl | rfl | rfl | rfl | rfl | rfl | rfl | rfl | rfl
  · simp only [kOf]; rw [if_pos (by omega)]
  · simp only [kOf]; rw [if_neg (by omega), if_pos (by omega)]
  · simp only [kOf]; rw [if_neg (by omega), if_neg (by omega), if_pos (by omega)]
  · simp only [kOf]; rw [if_neg (by omega), if_neg (by omega), if_neg (by omega), if_pos (by omega)]
  · simp only [kOf]; rw [if_neg (by omega), if_neg (by omega), if_neg (by omega), if_neg (by omega), if_pos (by omega)]
  · simp only [kOf]; rw [if_neg (by omega), if_neg (by omega), if_neg (by omega), if_neg (by omega), if_neg (by omega), if_pos (by omega)]
  · simp only [kOf]; rw [if_neg (by omega), if_neg (by omega), if_neg (by omega), if_neg (by omega), if_neg (by omega), if_neg (by omega), if_pos (by omega)]
  · simp only [kOf]; rw [if_neg (by omega), if_neg (by omega), if_neg (by omega), if_neg (by omega), if_neg (by omega), if_neg (by omega), if_neg (by omega), if_pos (by omega)]
  · simp only [kOf]; rw [if_neg (by omega), if_neg (by omega), if_neg (by omega), if_neg (by omega), if_neg (by omega), if_neg (by omega), if_neg (by omega), if_neg (by omega), if_pos (by omega)]
  · simp only [kOf]; rw [if_neg (by omega), if_neg (by omega), if_neg (by omega), if_neg (by omega), if_neg (by omega), if_neg (by omega), if_neg (by omega), if_neg (by omega), if_neg (by omega)]
def dg (a j : Nat) : Int32 := nI (48 + a / 10 ^ j % 10)
def dgL (a : Nat) : Nat → List Int32
  | 0 => []
  | j + 1 => dg a j :: dgL a j
def unJ (j : Nat) : Nat := match j with
  | 0 => 0
  | j + 1 => 10 ^ j
theorem unJ_div (j : Nat) : unJ (j + 1) / 10 = unJ j := by
  cases j with
  | zero => rfl
  | succ j => show 10 ^ (j + 1) / 10 = 10 ^ j; rw [Nat.pow_succ]; omega
theorem unJ_lt {j : Nat} (h : j ≤ 10) : unJ j < 10000000000 := by
  cases j with
  | zero => decide
  | succ j => exact Nat.lt_of_le_of_lt (Nat.pow_le_pow_right (by decide) (show j ≤ 9 by omega)) (by decide)
/-- a number as it is written -/
def decN (a : Nat) : List Int32 := dgL a (kOf a + 1)
def decB (x : Int32) : List Int32 := if x < 0 then 45 :: decN x.toInt.natAbs else decN x.toInt.natAbs
theorem dg_b (a j : Nat) : (dg a j).toInt8.toInt32 = dg a j := by
  have h : a / 10 ^ j % 10 < 10 := Nat.mod_lt _ (by decide)
  simp only [dg]
  generalize a / 10 ^ j % 10 = m at h
  rcases (show m = 0 ∨ m = 1 ∨ m = 2 ∨ m = 3 ∨ m = 4 ∨ m = 5 ∨ m = 6 ∨ m = 7 ∨ m = 8 ∨ m = 9 by omega) with rfl | rfl | rfl | rfl | rfl | rfl | rfl | rfl | rfl | rfl <;> decide +kernel
theorem i2l_abs {x : Int32} (h : ¬ x < 0) : x.toInt64 = lN x.toInt.natAbs := by
  obtain ⟨j, hj, rfl⟩ := nI_of h
  rw [nI_l hj, nI_toInt hj, Int.natAbs_natCast]
theorem i2l_neg {x : Int32} (h : x < 0) : -x.toInt64 = lN x.toInt.natAbs := by
  apply Int64.toInt_inj.mp
  have hx : x.toInt < 0 := by simpa using Int32.lt_iff_toInt_lt.mp h
  have hr := Int32.le_toInt x
  have h1 : x.toInt.natAbs < 2 ^ 63 := by omega
  rw [pk_lT h1, Int64.toInt_neg, Int32.toInt_toInt64]
  rw [Int.bmod_eq_of_le] <;> omega
theorem i2l_lt {x : Int32} : x.toInt64 < 0 ↔ x < 0 := by
  rw [Int64.lt_iff_toInt_lt, Int32.lt_iff_toInt_lt, Int32.toInt_toInt64]
  simp
theorem abs_lt (x : Int32) : x.toInt.natAbs < 10000000000 := by
  have h1 := Int32.le_toInt x
  have h2 := Int32.toInt_lt x
  omega
set_option maxHeartbeats 4000000 in
set_option maxRecDepth 100000 in
theorem k_addNumber (l : Launch) (q : ev_T) {b r n : Nat} {x : Int32} {xs : List Int32} {ov : Bool} {g : mu_T} (hB : RB g b r n xs ov) : Ctr l q M_By_addNumber 1 [.ref b, .int x] (0, 0, g) (fun v w => v = none ∧ sm g w.2.2 [b, r] ∧ RB w.2.2 b r n (adL n (xs, ov) (decB x)).1 (adL n (xs, ov) (decB x)).2) := by
  obtain ⟨a, haa⟩ : ∃ a, a = x.toInt.natAbs := ⟨_, rfl⟩
  have hal : a < 10000000000 := by rw [haa]; exact abs_lt x
  have p10 : ∀ k, k ≤ 10 → 10 ^ k ≤ 10000000000 := fun k hk => Nat.le_trans (Nat.pow_le_pow_right (by decide) hk) (by decide)
  refine Ctr.mk (lb := [some (.ref b), some (.int x), none, none, none, none, none]) (by decide +kernel) (Nat.le_of_ble_eq_true rfl) rfl rfl ?_
  intro p e s m args below meth c X hrt hlk hnm
  have lp2 : ∀ (j : Nat), j ≤ 10 → ∀ (h : mu_T) (ys : List Int32) (oy : Bool), sm g h [b, r] → RB h b r n ys oy → adL n (ys, oy) (dgL a j) = adL n (xs, ov) (decB x) → Vv p l e (rmT 1 0 0) s m args below meth c 7 q (MQ below (Qw q (fun v w => v = none ∧ sm g w.2.2 [b, r] ∧ RB w.2.2 b r n (adL n (xs, ov) (decB x)).1 (adL n (xs, ov) (decB x)).2)) args s 0 0 (fun a => q.1 ≤ a)) 56 [some (.ref b), some (.int x), some (.long (lN a)), none, some (.long (lN (unJ j))), none, none] [] (0, 0, h) := by
    intro j
    induction j with
    | zero =>
      intro hj10 h ys oy hs hR hf
      refine v_lload X (dk D_By_addNumber 32 rfl) rfl ?_
      refine v_lconst (v := 0) X (dk D_By_addNumber 33 rfl) (by decide) ?_
      refine v_lcmp X (dk D_By_addNumber 34 rfl) ?_
      refine v_if_le (tgt := 90) X (dk D_By_addNumber 35 rfl) (by decide) (fun _ => ?_) (fun c60 => absurd (by rw [lg_cmp_le]; exact Int64.le_refl _) c60)
      exact v_vret X hlk hrt (dk D_By_addNumber 51 rfl) ⟨rfl, hs, by rw [← hf]; exact hR⟩
    | succ j ih0 =>
      intro hj10 h ys oy hs hR hf
      have ih := ih0 (by omega)
      have hul := unJ_lt hj10
      have hup : 0 < unJ (j + 1) := Nat.pow_pos (by decide)
      refine v_lload X (dk D_By_addNumber 32 rfl) rfl ?_
      refine v_lconst (v := 0) X (dk D_By_addNumber 33 rfl) (by decide) ?_
      refine v_lcmp X (dk D_By_addNumber 34 rfl) ?_
      refine v_if_le (tgt := 90) X (dk D_By_addNumber 35 rfl) (by decide) (fun c60 => absurd c60 (by rw [lg_cmp_le, show (0 : Int64) = lN 0 from rfl, pk_lLE (by omega) (by decide)]; have := hup; omega)) (fun _ => ?_)
      refine v_aload_n X (dk D_By_addNumber 36 rfl) rfl ?_
      refine v_bipush (v := 48) X (dk D_By_addNumber 37 rfl) (by decide) ?_
      refine v_lload_n X (dk D_By_addNumber 38 rfl) rfl ?_
      refine v_lload X (dk D_By_addNumber 39 rfl) rfl ?_
      refine v_ldiv X (dk D_By_addNumber 40 rfl) (by intro z; have z2 := congrArg Int64.toInt z; rw [pk_lT (by omega)] at z2; have z3 : ((unJ (j + 1) : Nat) : Int) = 0 := z2; omega) ?_
      refine v_ldc2 X (dk D_By_addNumber 41 rfl) C_By_53 ?_
      refine v_lrem X (dk D_By_addNumber 42 rfl) (by decide) ?_
      refine v_l2i X (dk D_By_addNumber 43 rfl) rfl ?_
      refine v_iadd X (dk D_By_addNumber 44 rfl) ?_
      rw [show (48 : Int32) + (lN a / lN (unJ (j + 1)) - lN a / lN (unJ (j + 1)) / 10 * 10).toInt32 = dg a j from by rw [pk_lDiv (by omega) hup (by omega), show (10 : Int64) = lN 10 from rfl, pk_lRem (by have := Nat.div_le_self a (unJ (j + 1)); omega) (by decide) (by decide), lN_i, show (48 : Int32) = nI 48 from rfl, nI_add]; rfl]
      refine v_invV (As := [.int (dg a j)]) (st := []) X (k_add l q (x := (dg a j)) hR) (dk D_By_addNumber 45 rfl) G_By_49 K_By_add V_By_add hR.1.1 rfl hR.1.2.1 rfl rfl (Nat.le_of_ble_eq_true rfl) (Nat.le_of_ble_eq_true rfl) (Nat.le_of_ble_eq_true rfl) (Nat.le_of_ble_eq_true rfl) (Nat.le_of_ble_eq_true rfl) ?_
      rintro v w ⟨rfl, hw1, hw2⟩
      show Vv _ _ _ _ _ _ _ _ _ _ _ _ _ _ _ [] (0, 0, w.2.2)
      refine v_lload X (dk D_By_addNumber 46 rfl) rfl ?_
      refine v_ldc2 X (dk D_By_addNumber 47 rfl) C_By_53 ?_
      refine v_ldiv X (dk D_By_addNumber 48 rfl) (by decide) ?_
      rw [show lN (unJ (j + 1)) / 10 = lN (unJ j) from by rw [show (10 : Int64) = lN 10 from rfl, pk_lDiv (by omega) (by decide) (by decide), unJ_div]]
      refine v_lstore (lb := [some (.ref b), some (.int x), some (.long (lN a)), none, some (.long (lN (unJ j))), none, none]) X (dk D_By_addNumber 49 rfl) (by decide) rfl ?_
      refine v_goto (tgt := 56) X (dk D_By_addNumber 50 rfl) (by decide) ?_
      exact ih _ _ _ (hs.tr hw1 (fun _ z => z) (fun _ z => z)) hw2 (by rw [dg_b]; exact hf)
  have lp1 : ∀ (h : mu_T) (ys : List Int32) (oy : Bool), sm g h [b, r] → RB h b r n ys oy → adL n (ys, oy) (decN a) = adL n (xs, ov) (decB x) → ∀ (d k : Nat), k + d = 9 → (k = 0 ∨ 10 ^ k ≤ a) → Vv p l e (rmT 1 0 0) s m args below meth c 7 q (MQ below (Qw q (fun v w => v = none ∧ sm g w.2.2 [b, r] ∧ RB w.2.2 b r n (adL n (xs, ov) (decB x)).1 (adL n (xs, ov) (decB x)).2)) args s 0 0 (fun a => q.1 ≤ a)) 24 [some (.ref b), some (.int x), some (.long (lN a)), none, some (.long (lN (10 ^ k))), none, some (.int (nI k))] [] (0, 0, h) := by
    intro h ys oy hs hR hf0 d
    induction d with
    | zero =>
      intro k hkd hk0
      refine v_iload X (dk D_By_addNumber 17 rfl) rfl ?_
      refine v_bipush (v := 9) X (dk D_By_addNumber 18 rfl) (by decide) ?_
      refine v_icmp_ge (tgt := 56) X (dk D_By_addNumber 19 rfl) (by decide) (fun _ => ?_) (fun c28 => absurd (by rw [show k = 9 by omega]; decide) c28)
      exact v_weak (la := [some (.ref b), some (.int x), some (.long (lN a)), none, some (.long (lN (unJ (k + 1)))), none, none]) ⟨rfl, rfl, rfl, rfl, trivial⟩ (lp2 (k + 1) (by omega) h ys oy hs hR (by rw [← hf0]; show _ = adL n (ys, oy) (dgL a (kOf a + 1)); rw [kOf_eq (by omega) hk0 (by rw [show k = 9 by omega]; exact hal)]))
    | succ d ih =>
      intro k hkd hk0
      refine v_iload X (dk D_By_addNumber 17 rfl) rfl ?_
      refine v_bipush (v := 9) X (dk D_By_addNumber 18 rfl) (by decide) ?_
      refine v_icmp_ge (tgt := 56) X (dk D_By_addNumber 19 rfl) (by decide) (fun c28 => absurd c28 (nI_ge (b := 9) (by omega) (by decide))) (fun _ => ?_)
      refine v_lload X (dk D_By_addNumber 20 rfl) rfl ?_
      refine v_ldc2 X (dk D_By_addNumber 21 rfl) C_By_53 ?_
      refine v_lmul X (dk D_By_addNumber 22 rfl) ?_
      rw [show lN (10 ^ k) * 10 = lN (10 ^ (k + 1)) from by rw [show (10 : Int64) = lN 10 from rfl, lN_mul, ← Nat.pow_succ]]
      refine v_lload_n X (dk D_By_addNumber 23 rfl) rfl ?_
      refine v_lcmp X (dk D_By_addNumber 24 rfl) ?_
      refine v_if_gt (tgt := 56) X (dk D_By_addNumber 25 rfl) (by decide) (fun c39 => ?_) (fun c39 => ?_)
      · exact v_weak (la := [some (.ref b), some (.int x), some (.long (lN a)), none, some (.long (lN (unJ (k + 1)))), none, none]) ⟨rfl, rfl, rfl, rfl, trivial⟩ (lp2 (k + 1) (by omega) h ys oy hs hR (by rw [← hf0]; show _ = adL n (ys, oy) (dgL a (kOf a + 1)); rw [kOf_eq (by omega) hk0 (by rw [lg_cmp_gt, pk_lLT (by omega) (by have := p10 (k + 1) (by omega); omega)] at c39; exact c39)]))
      · refine v_lload X (dk D_By_addNumber 26 rfl) rfl ?_
        refine v_ldc2 X (dk D_By_addNumber 27 rfl) C_By_53 ?_
        refine v_lmul X (dk D_By_addNumber 28 rfl) ?_
        rw [show lN (10 ^ k) * 10 = lN (10 ^ (k + 1)) from by rw [show (10 : Int64) = lN 10 from rfl, lN_mul, ← Nat.pow_succ]]
        refine v_lstore (lb := [some (.ref b), some (.int x), some (.long (lN a)), none, some (.long (lN (10 ^ (k + 1)))), none, some (.int (nI k))]) X (dk D_By_addNumber 29 rfl) (by decide) rfl ?_
        refine v_iinc (v := nI (k + 1)) (lb := [some (.ref b), some (.int x), some (.long (lN a)), none, some (.long (lN (10 ^ (k + 1)))), none, some (.int (nI (k + 1)))]) X (dk D_By_addNumber 30 rfl) rfl (nI_1 k) (by decide) rfl ?_
        refine v_goto (tgt := 24) X (dk D_By_addNumber 31 rfl) (by decide) ?_
        exact ih (k + 1) (by omega) (Or.inr (by rw [lg_cmp_gt, pk_lLT (by omega) (by have := p10 (k + 1) (by omega); omega)] at c39; omega))
  have mid : ∀ (h : mu_T) (ys : List Int32) (oy : Bool), sm g h [b, r] → RB h b r n ys oy → adL n (ys, oy) (decN a) = adL n (xs, ov) (decB x) → Vv p l e (rmT 1 0 0) s m args below meth c 7 q (MQ below (Qw q (fun v w => v = none ∧ sm g w.2.2 [b, r] ∧ RB w.2.2 b r n (adL n (xs, ov) (decB x)).1 (adL n (xs, ov) (decB x)).2)) args s 0 0 (fun a => q.1 ≤ a)) 18 [some (.ref b), some (.int x), some (.long (lN a)), none, none, none, none] [] (0, 0, h) := by
    intro h ys oy hs hR hf0
    refine v_lconst (v := lN (10 ^ 0)) X (dk D_By_addNumber 13 rfl) (by decide) ?_
    refine v_lstore (lb := [some (.ref b), some (.int x), some (.long (lN a)), none, some (.long (lN (10 ^ 0))), none, none]) X (dk D_By_addNumber 14 rfl) (by decide) rfl ?_
    refine v_iconst (v := nI 0) X (dk D_By_addNumber 15 rfl) (by decide) ?_
    refine v_istore (lb := [some (.ref b), some (.int x), some (.long (lN a)), none, some (.long (lN (10 ^ 0))), none, some (.int (nI 0))]) X (dk D_By_addNumber 16 rfl) (by decide) rfl ?_
    exact lp1 h ys oy hs hR hf0 9 0 rfl (Or.inl rfl)
  refine v_iload_n X (dk D_By_addNumber 0 rfl) rfl ?_
  refine v_i2l X (dk D_By_addNumber 1 rfl) rfl ?_
  refine v_lstore_n (lb := [some (.ref b), some (.int x), some (.long x.toInt64), none, none, none, none]) X (dk D_By_addNumber 2 rfl) (by decide) rfl ?_
  refine v_lload_n X (dk D_By_addNumber 3 rfl) rfl ?_
  refine v_lconst (v := 0) X (dk D_By_addNumber 4 rfl) (by decide) ?_
  refine v_lcmp X (dk D_By_addNumber 5 rfl) ?_
  refine v_if_ge (tgt := 18) X (dk D_By_addNumber 6 rfl) (by decide) (fun c6 => ?_) (fun c6 => ?_)
  · have hx0 : ¬ x < 0 := fun z => by rw [lg_cmp_ge] at c6; exact absurd (i2l_lt.mpr z) (Int64.not_lt.mpr c6)
    rw [i2l_abs hx0, ← haa]
    exact mid g xs ov (sm.rf g _) hB (by rw [decB, if_neg hx0, ← haa])
  · refine v_aload_n X (dk D_By_addNumber 7 rfl) rfl ?_
    refine v_bipush (v := 45) X (dk D_By_addNumber 8 rfl) (by decide) ?_
    refine v_invV (As := [.int 45]) (st := []) X (k_add l q (x := 45) hB) (dk D_By_addNumber 9 rfl) G_By_49 K_By_add V_By_add hB.1.1 rfl hB.1.2.1 rfl rfl (Nat.le_of_ble_eq_true rfl) (Nat.le_of_ble_eq_true rfl) (Nat.le_of_ble_eq_true rfl) (Nat.le_of_ble_eq_true rfl) (Nat.le_of_ble_eq_true rfl) ?_
    rintro v w ⟨rfl, hw1, hw2⟩
    show Vv _ _ _ _ _ _ _ _ _ _ _ _ _ _ _ [] (0, 0, w.2.2)
    refine v_lload_n X (dk D_By_addNumber 10 rfl) rfl ?_
    refine v_lneg X (dk D_By_addNumber 11 rfl) ?_
    refine v_lstore_n (lb := [some (.ref b), some (.int x), some (.long (-x.toInt64)), none, none, none, none]) X (dk D_By_addNumber 12 rfl) (by decide) rfl ?_
    have hx0 : x < 0 := by rw [lg_cmp_ge] at c6; exact i2l_lt.mp (Int64.not_le.mp c6)
    rw [i2l_neg hx0, ← haa]
    exact mid _ _ _ hw1 hw2 (by rw [decB, if_pos hx0, ← haa]; rfl)
