/-! RescanMill$Bytes -/
theorem n2 {a b : Prop} (h1 : ¬ a) (h2 : ¬ b) : ¬ (a ∨ b) := fun z => z.elim h1 h2
theorem n3 {a b c : Prop} (h1 : ¬ a) (h2 : ¬ b) (h3 : ¬ c) : ¬ (a ∨ b ∨ c) := fun z => z.elim h1 (n2 h2 h3)
/-- a row of bytes with a bound: object b, row r of n places -/
def isB (g : mu_T) (b r n : Nat) : Prop := kdT b = .inl 1 ∧ b < gN g ∧ gF g b 0 = some r ∧ kdT r = .inr (1, n) ∧ r < gN g ∧ n < 2147483648
/-- what 'at' answers -/
def atB (g : mu_T) (b r n : Nat) (i : Int32) : Int32 := if i < 0 ∨ gI g b 1 ≤ i ∨ nI n ≤ i then -1 else gI g r i.toNatClampNeg &&& 255
theorem in_of {i : Int32} {n : Nat} (hn : n < 2147483648) (h0 : ¬ i < 0) (h1 : ¬ nI n ≤ i) : vp_in i n := by
  intro z
  rcases z with z | z
  · exact h0 z
  · apply h1
    rw [Int32.le_iff_toInt_le, nI_toInt hn]
    have hi : ¬ i.toInt < 0 := fun q => h0 (by rw [Int32.lt_iff_toInt_lt]; simpa using q)
    have : i.toNatClampNeg = i.toInt.toNat := rfl
    omega
theorem in_of' {i : Int32} {n : Nat} (hn : n < 2147483648) (h0 : ¬ i < 0) (h1 : i < nI n) : vp_in i n := in_of hn h0 (fun z => absurd h1 (by rw [Int32.not_lt]; exact z))
set_option maxHeartbeats 4000000 in
set_option maxRecDepth 100000 in
theorem c_By_at (l : Launch) (q : ev_T) {b r n : Nat} {i : Int32} {g : mu_T} (hB : isB g b r n) : Ctr l q M_By_at 0 [.ref b, .int i] (0, 0, g) (fun v w => v = some (.int (atB g b r n i)) ∧ w.2.2 = g) := by
  obtain ⟨hk, ha, hF, hkr, har, hn⟩ := hB
  refine Ctr.mk (lb := [some (.ref b), some (.int i)]) (by decide +kernel) (Nat.le_of_ble_eq_true rfl) rfl rfl ?_
  intro p e s m args below meth c X hrt hlk hnm
  refine v_iload_n X (dk D_By_at 0 rfl) rfl ?_
  refine v_if_lt (tgt := 34) X (dk D_By_at 1 rfl) (by decide) (fun c1 => ?_) (fun c1 => ?_)
  · refine v_iconst (v := -1) X (dk D_By_at 18 rfl) (by decide) ?_
    exact v_iret X hlk hrt (dk D_By_at 19 rfl) ⟨by simp [atB, c1], rfl⟩
  · refine v_iload_n X (dk D_By_at 2 rfl) rfl ?_
    refine v_aload_n X (dk D_By_at 3 rfl) rfl ?_
    refine v_getI X (dk D_By_at 4 rfl) F_By_21 rfl hk ha ?_
    refine v_icmp_ge (tgt := 34) X (dk D_By_at 5 rfl) (by decide) (fun c9 => ?_) (fun c9 => ?_)
    · refine v_iconst (v := -1) X (dk D_By_at 18 rfl) (by decide) ?_
      exact v_iret X hlk hrt (dk D_By_at 19 rfl) ⟨by simp only [atB]; rw [if_pos (Or.inr (Or.inl c9))], rfl⟩
    · refine v_iload_n X (dk D_By_at 6 rfl) rfl ?_
      refine v_aload_n X (dk D_By_at 7 rfl) rfl ?_
      refine v_getF X (dk D_By_at 8 rfl) F_By_15 rfl hk ha hF ?_
      refine v_alen (v := nI _) X (dk D_By_at 9 rfl) hkr rfl har rfl ?_
      refine v_icmp_ge (tgt := 34) X (dk D_By_at 10 rfl) (by decide) (fun c18 => ?_) (fun c18 => ?_)
      · refine v_iconst (v := -1) X (dk D_By_at 18 rfl) (by decide) ?_
        exact v_iret X hlk hrt (dk D_By_at 19 rfl) ⟨by simp only [atB]; rw [if_pos (Or.inr (Or.inr c18))], rfl⟩
      · refine v_aload_n X (dk D_By_at 11 rfl) rfl ?_
        refine v_getF X (dk D_By_at 12 rfl) F_By_15 rfl hk ha hF ?_
        refine v_iload_n X (dk D_By_at 13 rfl) rfl ?_
        refine v_bald X (dk D_By_at 14 rfl) hkr har (in_of hn c1 c18) ?_
        refine v_sipush (v := 255) X (dk D_By_at 15 rfl) (by decide) ?_
        refine v_iand X (dk D_By_at 16 rfl) ?_
        refine v_goto (tgt := 35) X (dk D_By_at 17 rfl) (by decide) ?_
        exact v_iret X hlk hrt (dk D_By_at 19 rfl) ⟨by simp only [atB]; rw [if_neg (n3 c1 c9 c18)], rfl⟩
set_option maxHeartbeats 4000000 in
set_option maxRecDepth 100000 in
theorem c_By_hasRoom (l : Launch) (q : ev_T) {b r n : Nat} {i : Int32} {g : mu_T} (hB : isB g b r n) : Ctr l q M_By_hasRoom 0 [.ref b, .int i] (0, 0, g) (fun v w => v = some (.int (if i ≤ nI n - gI g b 1 then 1 else 0)) ∧ w.2.2 = g) := by
  obtain ⟨hk, ha, hF, hkr, har, hn⟩ := hB
  refine Ctr.mk (lb := [some (.ref b), some (.int i)]) (by decide +kernel) (Nat.le_of_ble_eq_true rfl) rfl rfl ?_
  intro p e s m args below meth c X hrt hlk hnm
  refine v_iload_n X (dk D_By_hasRoom 0 rfl) rfl ?_
  refine v_aload_n X (dk D_By_hasRoom 1 rfl) rfl ?_
  refine v_getF X (dk D_By_hasRoom 2 rfl) F_By_15 rfl hk ha hF ?_
  refine v_alen (v := nI _) X (dk D_By_hasRoom 3 rfl) hkr rfl har rfl ?_
  refine v_aload_n X (dk D_By_hasRoom 4 rfl) rfl ?_
  refine v_getI X (dk D_By_hasRoom 5 rfl) F_By_21 rfl hk ha ?_
  refine v_isub X (dk D_By_hasRoom 6 rfl) ?_
  refine v_icmp_gt (tgt := 18) X (dk D_By_hasRoom 7 rfl) (by decide) (fun c11 => ?_) (fun c11 => ?_)
  · refine v_iconst (v := 0) X (dk D_By_hasRoom 10 rfl) (by decide) ?_
    exact v_zret X hlk hrt rfl (dk D_By_hasRoom 11 rfl) ⟨by rw [if_neg (Int32.not_le.mpr c11)], rfl⟩
  · refine v_iconst (v := 1) X (dk D_By_hasRoom 8 rfl) (by decide) ?_
    refine v_goto (tgt := 19) X (dk D_By_hasRoom 9 rfl) (by decide) ?_
    exact v_zret X hlk hrt rfl (dk D_By_hasRoom 11 rfl) ⟨by rw [if_pos (Int32.not_lt.mp c11)], rfl⟩
set_option maxHeartbeats 4000000 in
set_option maxRecDepth 100000 in
theorem c_By_cut (l : Launch) (q : ev_T) {b r n : Nat} {i : Int32} {g : mu_T} (hB : isB g b r n) : Ctr l q M_By_cut 0 [.ref b, .int i] (0, 0, g) (fun v w => v = none ∧ w.2.2 = xI (if 0 ≤ i ∧ i ≤ gI g b 1 then xI g b 1 i else g) b 2 0) := by
  obtain ⟨hk, ha, hF, hkr, har, hn⟩ := hB
  refine Ctr.mk (lb := [some (.ref b), some (.int i)]) (by decide +kernel) (Nat.le_of_ble_eq_true rfl) rfl rfl ?_
  intro p e s m args below meth c X hrt hlk hnm
  refine v_iload_n X (dk D_By_cut 0 rfl) rfl ?_
  refine v_if_lt (tgt := 17) X (dk D_By_cut 1 rfl) (by decide) (fun c1 => ?_) (fun c1 => ?_)
  · refine v_aload_n X (dk D_By_cut 9 rfl) rfl ?_
    refine v_iconst (v := 0) X (dk D_By_cut 10 rfl) (by decide) ?_
    refine v_putI X (dk D_By_cut 11 rfl) F_By_25 CK_By rfl hk ha rfl rfl ?_
    exact v_vret X hlk hrt (dk D_By_cut 12 rfl) ⟨rfl, by rw [if_neg (fun z => absurd c1 (Int32.not_lt.mpr z.1))]⟩
  · refine v_iload_n X (dk D_By_cut 2 rfl) rfl ?_
    refine v_aload_n X (dk D_By_cut 3 rfl) rfl ?_
    refine v_getI X (dk D_By_cut 4 rfl) F_By_21 rfl hk ha ?_
    refine v_icmp_gt (tgt := 17) X (dk D_By_cut 5 rfl) (by decide) (fun c9 => ?_) (fun c9 => ?_)
    · refine v_aload_n X (dk D_By_cut 9 rfl) rfl ?_
      refine v_iconst (v := 0) X (dk D_By_cut 10 rfl) (by decide) ?_
      refine v_putI X (dk D_By_cut 11 rfl) F_By_25 CK_By rfl hk ha rfl rfl ?_
      exact v_vret X hlk hrt (dk D_By_cut 12 rfl) ⟨rfl, by rw [if_neg (fun z => absurd c9 (Int32.not_lt.mpr z.2))]⟩
    · refine v_aload_n X (dk D_By_cut 6 rfl) rfl ?_
      refine v_iload_n X (dk D_By_cut 7 rfl) rfl ?_
      refine v_putI X (dk D_By_cut 8 rfl) F_By_21 CK_By rfl hk ha rfl rfl ?_
      refine v_aload_n X (dk D_By_cut 9 rfl) rfl ?_
      refine v_iconst (v := 0) X (dk D_By_cut 10 rfl) (by decide) ?_
      refine v_putI X (dk D_By_cut 11 rfl) F_By_25 CK_By rfl hk ha rfl rfl ?_
      exact v_vret X hlk hrt (dk D_By_cut 12 rfl) ⟨rfl, by rw [if_pos ⟨Int32.not_lt.mp c1, Int32.not_lt.mp c9⟩]⟩
set_option maxHeartbeats 4000000 in
set_option maxRecDepth 100000 in
theorem c_By_add (l : Launch) (q : ev_T) {b r n : Nat} {x : Int32} {g : mu_T} (hB : isB g b r n) : Ctr l q M_By_add 0 [.ref b, .int x] (0, 0, g) (fun v w => v = none ∧ w.2.2 = if ¬ gI g b 2 = 0 ∨ gI g b 1 < 0 ∨ nI n ≤ gI g b 1 then xI g b 2 1 else xI (xI g r (gI g b 1).toNatClampNeg x.toInt8.toInt32) b 1 (gI g b 1 + 1)) := by
  obtain ⟨hk, ha, hF, hkr, har, hn⟩ := hB
  have hne : b ≠ r := fun z => by rw [z, hkr] at hk; cases hk
  refine Ctr.mk (lb := [some (.ref b), some (.int x)]) (by decide +kernel) (Nat.le_of_ble_eq_true rfl) rfl rfl ?_
  intro p e s m args below meth c X hrt hlk hnm
  refine v_aload_n X (dk D_By_add 0 rfl) rfl ?_
  refine v_getI X (dk D_By_add 1 rfl) F_By_25 rfl hk ha ?_
  refine v_if_ne (tgt := 26) X (dk D_By_add 2 rfl) (by decide) (fun c4 => ?_) (fun c4 => ?_)
  · refine v_aload_n X (dk D_By_add 12 rfl) rfl ?_
    refine v_iconst (v := 1) X (dk D_By_add 13 rfl) (by decide) ?_
    refine v_putI X (dk D_By_add 14 rfl) F_By_25 CK_By rfl hk ha rfl rfl ?_
    exact v_vret X hlk hrt (dk D_By_add 15 rfl) ⟨rfl, by rw [if_pos (Or.inl c4)]⟩
  · refine v_aload_n X (dk D_By_add 3 rfl) rfl ?_
    refine v_getI X (dk D_By_add 4 rfl) F_By_21 rfl hk ha ?_
    refine v_if_lt (tgt := 26) X (dk D_By_add 5 rfl) (by decide) (fun c11 => ?_) (fun c11 => ?_)
    · refine v_aload_n X (dk D_By_add 12 rfl) rfl ?_
      refine v_iconst (v := 1) X (dk D_By_add 13 rfl) (by decide) ?_
      refine v_putI X (dk D_By_add 14 rfl) F_By_25 CK_By rfl hk ha rfl rfl ?_
      exact v_vret X hlk hrt (dk D_By_add 15 rfl) ⟨rfl, by rw [if_pos (Or.inr (Or.inl c11))]⟩
    · refine v_aload_n X (dk D_By_add 6 rfl) rfl ?_
      refine v_getI X (dk D_By_add 7 rfl) F_By_21 rfl hk ha ?_
      refine v_aload_n X (dk D_By_add 8 rfl) rfl ?_
      refine v_getF X (dk D_By_add 9 rfl) F_By_15 rfl hk ha hF ?_
      refine v_alen (v := nI _) X (dk D_By_add 10 rfl) hkr rfl har rfl ?_
      refine v_icmp_lt (tgt := 32) X (dk D_By_add 11 rfl) (by decide) (fun c23 => ?_) (fun c23 => ?_)
      · refine v_aload_n X (dk D_By_add 16 rfl) rfl ?_
        refine v_getF X (dk D_By_add 17 rfl) F_By_15 rfl hk ha hF ?_
        refine v_aload_n X (dk D_By_add 18 rfl) rfl ?_
        refine v_getI X (dk D_By_add 19 rfl) F_By_21 rfl hk ha ?_
        refine v_iload_n X (dk D_By_add 20 rfl) rfl ?_
        refine v_i2b X (dk D_By_add 21 rfl) rfl ?_
        refine v_bast X (dk D_By_add 22 rfl) hkr har (in_of' hn c11 c23) rfl ?_
        refine v_aload_n X (dk D_By_add 23 rfl) rfl ?_
        refine v_dup X (dk D_By_add 24 rfl) rfl ?_
        refine v_getI X (dk D_By_add 25 rfl) F_By_21 rfl hk ha ?_
        refine v_iconst (v := 1) X (dk D_By_add 26 rfl) (by decide) ?_
        refine v_iadd X (dk D_By_add 27 rfl) ?_
        refine v_putI X (dk D_By_add 28 rfl) F_By_21 CK_By rfl hk ha rfl rfl ?_
        exact v_vret X hlk hrt (dk D_By_add 29 rfl) ⟨rfl, by rw [if_neg (n3 (fun z => z c4) c11 (Int32.not_le.mpr c23))]; simp only [Int8.toInt8_toInt32]; exact congrArg (fun z => xI _ b 1 (z + 1)) (up2_na hne)⟩
      · refine v_aload_n X (dk D_By_add 12 rfl) rfl ?_
        refine v_iconst (v := 1) X (dk D_By_add 13 rfl) (by decide) ?_
        refine v_putI X (dk D_By_add 14 rfl) F_By_25 CK_By rfl hk ha rfl rfl ?_
        exact v_vret X hlk hrt (dk D_By_add 15 rfl) ⟨rfl, by rw [if_pos (Or.inr (Or.inr (Int32.not_lt.mp c23)))]⟩
