/-! the reference: diversions -/
theorem dvt_up {D : Nat → List Int32} {i : Nat} {L : List Int32} (hi : i < 10) : dvt (va_up D i L) + (D i).length = dvt D + L.length := by
  rcases (show i = 0 ∨ i = 1 ∨ i = 2 ∨ i = 3 ∨ i = 4 ∨ i = 5 ∨ i = 6 ∨ i = 7 ∨ i = 8 ∨ i = 9 by omega) with rfl | rfl | rfl | rfl | rfl | rfl | rfl | rfl | rfl | rfl <;> (simp [dvt, va_up]; omega)
theorem dvt_ge {D : Nat → List Int32} {i : Nat} (hi : i < 10) : (D i).length ≤ dvt D := by
  have := dvt_up (D := D) (i := i) (L := []) hi
  rw [List.length_nil] at this
  omega
theorem va_up_cm {α : Type} {f : Nat → α} {i j : Nat} {x y : α} (h : i ≠ j) : va_up (va_up f i x) j y = va_up (va_up f j y) i x := by
  funext k
  by_cases a : k = i
  · rw [a, va_up_ne' h, va_up_eq, va_up_eq]
  · rw [va_up_ne' (f := va_up f j y) a]
    by_cases b : k = j
    · rw [b, va_up_eq, va_up_eq]
    · rw [va_up_ne' b, va_up_ne' b, va_up_ne' a]
theorem va_up_id {α : Type} {f : Nat → α} {i : Nat} : va_up f i (f i) = f := by
  funext k
  by_cases a : k = i
  · rw [a, va_up_eq]
  · rw [va_up_ne' a]
theorem va_up_up {α : Type} {f : Nat → α} {i : Nat} {x y : α} : va_up (va_up f i x) i y = va_up f i y := by
  funext k
  by_cases a : k = i
  · rw [a, va_up_eq, va_up_eq]
  · rw [va_up_ne' a, va_up_ne' a, va_up_ne' a]
def DVR (g : mu_T) (cur : Int32) (D : Nat → List Int32) : Prop := gI g 1003 33 = cur ∧ (cur = -1 ∨ ∃ c, c < 10 ∧ cur = nI c) ∧ gI g 1003 32 = nI (dvt D) ∧ dvt D ≤ 32768 ∧ ∀ i, i < 10 → gI g 1017 i = nI (D i).length ∧ rwA g 1016 (32768 * i) (D i)
theorem DVR.rs {g w : mu_T} {K U : List Nat} {cur : Int32} {D : Nat → List Int32} (h : DVR g cur D) (z : rs g w K U) (h1 : 32 ∉ K) (h2 : 33 ∉ K) (h3 : 1016 ∉ U) (h4 : 1017 ∉ U) : DVR w cur D := by
  obtain ⟨a, b, c, d, e⟩ := h
  exact ⟨by rw [z.2 33 h2]; exact a, b, by rw [z.2 32 h1]; exact c, d, fun i hi => ⟨by rw [z.row h4 (by decide)]; exact (e i hi).1, fun j hj => by rw [z.row h3 (by decide)]; exact (e i hi).2 j hj⟩⟩
theorem DVR_put {g : mu_T} {cur : Int32} {D : Nat → List Int32} {c : Nat} {x : Int32} (h : DVR g cur D) (hc : c < 10) (hl : dvt D < 32768) : DVR (xI (xI (xI g 1016 (32768 * c + (D c).length) x) 1017 c (nI ((D c).length + 1))) 1003 32 (nI (dvt D + 1))) cur (va_up D c (D c ++ [x])) := by
  obtain ⟨h1, h2, h3, h4, h5⟩ := h
  have hu := dvt_up (D := D) (L := D c ++ [x]) hc
  rw [List.length_append, List.length_singleton] at hu
  refine ⟨(gI_nk (by decide)).trans ((gI_na (by decide)).trans ((gI_na (by decide)).trans h1)), h2, (gI_eq _ _ _ _).trans (congrArg nI (by omega)), by omega, fun i hi => ?_⟩
  have hci := dvt_ge (D := D) hc
  have hii := dvt_ge (D := D) hi
  by_cases e : i = c
  · subst e
    rw [va_up_eq]
    refine ⟨(gI_na (by decide)).trans ((gI_eq _ _ _ _).trans (by rw [List.length_append]; rfl)), fun j hj => ?_⟩
    rw [gI_na (by decide), gI_na (by decide)]
    exact rwA_snoc (h5 i hi).2 j hj
  · rw [va_up_ne' e]
    refine ⟨(gI_na (by decide)).trans ((gI_nk e).trans ((gI_na (by decide)).trans (h5 i hi).1)), fun j hj => ?_⟩
    rw [gI_na (by decide), gI_na (by decide), gI_nk (by omega)]
    exact (h5 i hi).2 j hj
set_option maxHeartbeats 4000000 in
set_option maxRecDepth 100000 in
theorem r_divertN (l : Launch) (q : ev_T) {x : Int32} {g : mu_T}  : Ctr l q M_Rf_divertByte 2 [.ref 1003, .int (-1), .int x] (0, 0, g) (fun v w => v = none ∧ w.2.2 = g) := by

  refine Ctr.mk (lb := [some (.ref 1003), some (.int (-1)), some (.int x)]) (by decide +kernel) (Nat.le_of_ble_eq_true rfl) rfl rfl ?_
  intro pp ee ss mm aa bb mt cd X hrt hlk hnm
  refine v_iload_n X (dk D_Rf_divertByte 0 rfl) rfl ?_
  refine v_if_ge (tgt := 5) X (dk D_Rf_divertByte 1 rfl) (by decide) (fun c1 => absurd c1 (by decide)) (fun _ => ?_)
  exact v_vret X hlk hrt (dk D_Rf_divertByte 2 rfl) ⟨rfl, rfl⟩
set_option maxHeartbeats 4000000 in
set_option maxRecDepth 100000 in
theorem r_divertF (l : Launch) (q : ev_T) {x cur : Int32} {c : Nat} {D : Nat → List Int32} {g : mu_T} (hS : Shp g) (hD : DVR g cur D) (he : gI g 1003 2 = 0) (hc : c < 10) (hf : dvt D = 32768) : Ctr l q M_Rf_divertByte 2 [.ref 1003, .int (nI c), .int x] (0, 0, g) (fun v w => v = none ∧ w.2.2 = xI (xI g 1003 2 40) 1003 3 (gI g 1003 10)) := by

  refine Ctr.mk (lb := [some (.ref 1003), some (.int (nI c)), some (.int x)]) (by decide +kernel) (Nat.le_of_ble_eq_true rfl) rfl rfl ?_
  intro pp ee ss mm aa bb mt cd X hrt hlk hnm
  refine v_iload_n X (dk D_Rf_divertByte 0 rfl) rfl ?_
  refine v_if_ge (tgt := 5) X (dk D_Rf_divertByte 1 rfl) (by decide) (fun _ => ?_) (fun c1 => absurd (nI_pos' (by omega)) c1)
  refine v_aload_n X (dk D_Rf_divertByte 3 rfl) rfl ?_
  refine v_getI X (dk D_Rf_divertByte 4 rfl) F_Rf_217 rfl rfl (hS.lt (by decide)) ?_
  refine v_ldc X (dk D_Rf_divertByte 5 rfl) C_Rf_9 ?_
  refine v_icmp_ne (tgt := 21) X (dk D_Rf_divertByte 6 rfl) (by decide) (fun c11 => absurd (by rw [hD.2.2.1, hf]; rfl) c11) (fun _ => ?_)
  refine v_aload_n X (dk D_Rf_divertByte 7 rfl) rfl ?_
  refine v_bipush (v := 40) X (dk D_Rf_divertByte 8 rfl) (by decide) ?_
  refine v_invV (As := [.int 40]) (st := []) X (r_fail1 l q (n := 40) hS) (dk D_Rf_divertByte 9 rfl) G_Rf_84 K_Rf_fail1 V_Rf_fail1 rfl rfl (hS.lt (by decide)) rfl rfl (Nat.le_of_ble_eq_true rfl) (Nat.le_of_ble_eq_true rfl) (Nat.le_of_ble_eq_true rfl) (Nat.le_of_ble_eq_true rfl) (Nat.le_of_ble_eq_true rfl) ?_
  rintro v w1 ⟨rfl, hw⟩
  rw [hw, if_pos he]
  show Vv _ _ _ _ _ _ _ _ _ _ _ _ _ _ _ [] (0, 0, xI (xI g 1003 2 40) 1003 3 (gI g 1003 10))
  exact v_vret X hlk hrt (dk D_Rf_divertByte 10 rfl) ⟨rfl, rfl⟩
set_option maxHeartbeats 4000000 in
set_option maxRecDepth 100000 in
theorem r_divert (l : Launch) (q : ev_T) {x cur : Int32} {c : Nat} {D : Nat → List Int32} {g : mu_T} (hS : Shp g) (hD : DVR g cur D) (hc : c < 10) (hf : dvt D < 32768) : Ctr l q M_Rf_divertByte 2 [.ref 1003, .int (nI c), .int x] (0, 0, g) (fun v w => v = none ∧ rs g w.2.2 [32] [1016, 1017] ∧ DVR w.2.2 cur (va_up D c (D c ++ [x.toInt8.toInt32])) ∧ ∀ j, j ≠ 32768 * c + (D c).length → gI w.2.2 1016 j = gI g 1016 j) := by
  have hdc := dvt_ge (D := D) hc
  have hrow : (32768 : Int32) * nI c + gI g 1017 (nI c).toNatClampNeg = nI (32768 * c + (D c).length) := by rw [nI_clamp (by omega), (hD.2.2.2.2 c hc).1, show (32768 : Int32) = nI 32768 from rfl, pk_mul, nI_add]
  refine Ctr.mk (lb := [some (.ref 1003), some (.int (nI c)), some (.int x)]) (by decide +kernel) (Nat.le_of_ble_eq_true rfl) rfl rfl ?_
  intro pp ee ss mm aa bb mt cd X hrt hlk hnm
  refine v_iload_n X (dk D_Rf_divertByte 0 rfl) rfl ?_
  refine v_if_ge (tgt := 5) X (dk D_Rf_divertByte 1 rfl) (by decide) (fun _ => ?_) (fun c1 => absurd (nI_pos' (by omega)) c1)
  refine v_aload_n X (dk D_Rf_divertByte 3 rfl) rfl ?_
  refine v_getI X (dk D_Rf_divertByte 4 rfl) F_Rf_217 rfl rfl (hS.lt (by decide)) ?_
  refine v_ldc X (dk D_Rf_divertByte 5 rfl) C_Rf_9 ?_
  refine v_icmp_ne (tgt := 21) X (dk D_Rf_divertByte 6 rfl) (by decide) (fun _ => ?_) (fun c11 => absurd c11 (by rw [hD.2.2.1, show (32768 : Int32) = nI 32768 from rfl, nI_eq (by omega) (by decide)]; omega))
  refine v_aload_n X (dk D_Rf_divertByte 11 rfl) rfl ?_
  refine v_getF X (dk D_Rf_divertByte 12 rfl) F_Rf_50 rfl rfl (hS.lt (by decide)) (hS.2 1003 30) ?_
  refine v_ldc X (dk D_Rf_divertByte 13 rfl) C_Rf_9 ?_
  refine v_iload_n X (dk D_Rf_divertByte 14 rfl) rfl ?_
  refine v_imul X (dk D_Rf_divertByte 15 rfl) ?_
  refine v_aload_n X (dk D_Rf_divertByte 16 rfl) rfl ?_
  refine v_getF X (dk D_Rf_divertByte 17 rfl) F_Rf_53 rfl rfl (hS.lt (by decide)) (hS.2 1003 31) ?_
  refine v_iload_n X (dk D_Rf_divertByte 18 rfl) rfl ?_
  refine v_iald X (dk D_Rf_divertByte 19 rfl) rfl (hS.lt (by decide)) (vp_in_nI (show c < 10 by omega) (by decide)) ?_
  refine v_iadd X (dk D_Rf_divertByte 20 rfl) ?_
  refine v_iload_n X (dk D_Rf_divertByte 21 rfl) rfl ?_
  refine v_i2b X (dk D_Rf_divertByte 22 rfl) rfl ?_
  refine v_bast X (dk D_Rf_divertByte 23 rfl) rfl (hS.lt (by decide)) (by rw [hrow]; exact vp_in_nI (show 32768 * c + (D c).length < 327680 by omega) (by decide)) rfl ?_
  rw [hrow, nI_clamp (by omega), Int8.toInt8_toInt32]
  refine v_aload_n X (dk D_Rf_divertByte 24 rfl) rfl ?_
  refine v_getF X (dk D_Rf_divertByte 25 rfl) F_Rf_53 rfl rfl (hS.lt (by decide)) (hS.2 1003 31) ?_
  refine v_iload_n X (dk D_Rf_divertByte 26 rfl) rfl ?_
  refine v_dup2 X (dk D_Rf_divertByte 27 rfl) rfl rfl ?_
  refine v_iald X (dk D_Rf_divertByte 28 rfl) rfl (hS.lt (by decide)) (vp_in_nI (show c < 10 by omega) (by decide)) ?_
  rw [nI_clamp (by omega), show gI (xI g 1016 (32768 * c + (D c).length) x.toInt8.toInt32) 1017 c = nI (D c).length from (gI_na (by decide)).trans (hD.2.2.2.2 c hc).1]
  refine v_iconst (v := 1) X (dk D_Rf_divertByte 29 rfl) (by decide) ?_
  refine v_iadd X (dk D_Rf_divertByte 30 rfl) ?_
  rw [nI_1]
  refine v_iast X (dk D_Rf_divertByte 31 rfl) rfl (hS.lt (by decide)) (vp_in_nI (show c < 10 by omega) (by decide)) ?_
  rw [nI_clamp (by omega)]
  refine v_aload_n X (dk D_Rf_divertByte 32 rfl) rfl ?_
  refine v_dup X (dk D_Rf_divertByte 33 rfl) rfl ?_
  refine v_getI X (dk D_Rf_divertByte 34 rfl) F_Rf_217 rfl rfl (hS.lt (by decide)) ?_
  rw [show gI (xI (xI g 1016 (32768 * c + (D c).length) x.toInt8.toInt32) 1017 c (nI ((D c).length + 1))) 1003 32 = nI (dvt D) from (gI_na (by decide)).trans ((gI_na (by decide)).trans hD.2.2.1)]
  refine v_iconst (v := 1) X (dk D_Rf_divertByte 35 rfl) (by decide) ?_
  refine v_iadd X (dk D_Rf_divertByte 36 rfl) ?_
  rw [nI_1]
  refine v_putI X (dk D_Rf_divertByte 37 rfl) F_Rf_217 CK_Rf rfl rfl (hS.lt (by decide)) rfl rfl ?_
  exact v_vret X hlk hrt (dk D_Rf_divertByte 38 rfl) ⟨rfl, (((rs.rf g _ _).rI (by decide) (by decide)).rI (by decide) (by decide)).fI (by decide), DVR_put hD hc hf, fun j hj => (gI_na (by decide)).trans ((gI_na (by decide)).trans (gI_nk hj))⟩
theorem DVR_cut {g : mu_T} {cur : Int32} {D : Nat → List Int32} {i : Nat} (h : DVR g cur D) (hi : i < 10) : DVR (xI (xI g 1017 i 0) 1003 32 (nI (dvt D - (D i).length))) cur (va_up D i []) := by
  obtain ⟨h1, h2, h3, h4, h5⟩ := h
  have hu := dvt_up (D := D) (L := []) hi
  rw [List.length_nil] at hu
  refine ⟨(gI_nk (by decide)).trans ((gI_na (by decide)).trans h1), h2, (gI_eq _ _ _ _).trans (congrArg nI (by omega)), by omega, fun j hj => ?_⟩
  by_cases e : j = i
  · subst e
    rw [va_up_eq]
    exact ⟨(gI_na (by decide)).trans (gI_eq _ _ _ _), fun k hk => absurd hk (Nat.not_lt_zero k)⟩
  · rw [va_up_ne' e]
    exact ⟨(gI_na (by decide)).trans ((gI_nk e).trans (h5 j hj).1), fun k hk => (gI_na (by decide)).trans ((gI_na (by decide)).trans ((h5 j hj).2 k hk))⟩
set_option maxHeartbeats 4000000 in
set_option maxRecDepth 100000 in
theorem r_undivert (l : Launch) (q : ev_T) {v0 cur : Int32} {D : Nat → List Int32} {g : mu_T} (hS : Shp g) (hD : DVR g cur D) : Ctr l q M_Rf_undivert 3 [.ref 1003, .int v0] (0, 0, g) (fun v w => v = none ∧ rs g w.2.2 [32] [1016, 1017] ∧ DVR w.2.2 cur (brX cur D v0)) := by

  refine Ctr.mk (lb := [some (.ref 1003), some (.int v0), none, none]) (by decide +kernel) (Nat.le_of_ble_eq_true rfl) rfl rfl ?_
  intro pp ee ss mm aa bb mt cd X hrt hlk hnm
  refine v_inv (fun hBB _ => ?_)
  by_cases c1 : v0 < 1
  · have hno : v0 < 1 ∨ nI 10 ≤ v0 ∨ v0 = cur := Or.inl c1
    refine v_iload_n X (dk D_Rf_undivert 0 rfl) rfl ?_
    refine v_iconst (v := 1) X (dk D_Rf_undivert 1 rfl) (by decide) ?_
    refine v_icmp_lt (tgt := 19) X (dk D_Rf_undivert 2 rfl) (by decide) (fun _ => ?_) (fun c2 => absurd c1 c2)
    exact v_vret X hlk hrt (dk D_Rf_undivert 10 rfl) ⟨rfl, rs.rf g _ _, by rw [brX, if_pos hno]; exact hD⟩
  by_cases c2 : (9 : Int32) < v0
  · have hno : v0 < 1 ∨ nI 10 ≤ v0 ∨ v0 = cur := Or.inr (Or.inl (Int32.le_iff_toInt_le.mpr (by have := Int32.lt_iff_toInt_lt.mp c2; rw [show (9 : Int32).toInt = 9 from rfl] at this; rw [show (nI 10).toInt = 10 from rfl]; omega)))
    refine v_iload_n X (dk D_Rf_undivert 0 rfl) rfl ?_
    refine v_iconst (v := 1) X (dk D_Rf_undivert 1 rfl) (by decide) ?_
    refine v_icmp_lt (tgt := 19) X (dk D_Rf_undivert 2 rfl) (by decide) (fun c2 => absurd c2 c1) (fun _ => ?_)
    refine v_iload_n X (dk D_Rf_undivert 3 rfl) rfl ?_
    refine v_bipush (v := 9) X (dk D_Rf_undivert 4 rfl) (by decide) ?_
    refine v_icmp_gt (tgt := 19) X (dk D_Rf_undivert 5 rfl) (by decide) (fun _ => ?_) (fun c8 => absurd c2 c8)
    exact v_vret X hlk hrt (dk D_Rf_undivert 10 rfl) ⟨rfl, rs.rf g _ _, by rw [brX, if_pos hno]; exact hD⟩
  by_cases c3 : v0 = cur
  · have hno : v0 < 1 ∨ nI 10 ≤ v0 ∨ v0 = cur := Or.inr (Or.inr c3)
    refine v_iload_n X (dk D_Rf_undivert 0 rfl) rfl ?_
    refine v_iconst (v := 1) X (dk D_Rf_undivert 1 rfl) (by decide) ?_
    refine v_icmp_lt (tgt := 19) X (dk D_Rf_undivert 2 rfl) (by decide) (fun c2 => absurd c2 c1) (fun _ => ?_)
    refine v_iload_n X (dk D_Rf_undivert 3 rfl) rfl ?_
    refine v_bipush (v := 9) X (dk D_Rf_undivert 4 rfl) (by decide) ?_
    refine v_icmp_gt (tgt := 19) X (dk D_Rf_undivert 5 rfl) (by decide) (fun c8 => absurd c8 c2) (fun _ => ?_)
    refine v_iload_n X (dk D_Rf_undivert 6 rfl) rfl ?_
    refine v_aload_n X (dk D_Rf_undivert 7 rfl) rfl ?_
    refine v_getI X (dk D_Rf_undivert 8 rfl) F_Rf_220 rfl rfl (hS.lt (by decide)) ?_
    refine v_icmp_ne (tgt := 20) X (dk D_Rf_undivert 9 rfl) (by decide) (fun c16 => absurd (c3.trans hD.1.symm) c16) (fun _ => ?_)
    exact v_vret X hlk hrt (dk D_Rf_undivert 10 rfl) ⟨rfl, rs.rf g _ _, by rw [brX, if_pos hno]; exact hD⟩
  obtain ⟨i, hi9, rfl⟩ := nI_of2 (M := 9) (n := 9) rfl (fun z => c1 (Int32.lt_trans z (by decide))) (Int32.not_lt.mp c2)
  have hi10 : i < 10 := by omega
  have hi0 : 0 < i := Decidable.byContradiction (fun z => c1 (by rw [show i = 0 by omega]; decide))
  have hdi := dvt_ge (D := D) hi10
  have hdt := hD.2.2.2.1
  have hne : ¬ nI i = cur := c3
  have hDD := DVR_cut hD hi10
  have hbt : ∀ x ∈ D i, x.toInt8.toInt32 = x := rw_byte hBB (r := 1016) (N := 327680) rfl (hD.2.2.2.2 i hi10).2
  have hnb : ¬ (nI i < 1 ∨ nI 10 ≤ nI i ∨ nI i = cur) := fun z => by
    rcases z with z | z | z
    · exact c1 z
    · exact absurd z (nI_ge (by omega) (by decide))
    · exact c3 z
  rcases hD.2.1 with rfl | ⟨c, hc, rfl⟩
  · have hbr : brX (-1) D (nI i) = va_up D i [] := by rw [brX, if_neg hnb, if_pos rfl, nI_clamp (by omega)]
    have loop : ∀ (d k : Nat) (h : mu_T), k + d = (D i).length → rs g h [32] [1016, 1017] → DVR h (-1) (va_up D i []) → rwA h 1016 (32768 * i) (D i) → Vv pp l ee (rmT 3 0 0) ss mm aa bb mt cd 4 q (MQ bb (Qw q (fun v w => v = none ∧ rs g w.2.2 [32] [1016, 1017] ∧ DVR w.2.2 (-1) (brX (-1) D (nI i)))) aa ss 0 0 (fun a => q.1 ≤ a)) 46 [some (.ref 1003), some (.int (nI i)), some (.int (nI (D i).length)), some (.int (nI k))] [] (0, 0, h) := by
      intro d
      induction d with
      | zero =>
        intro k h hkd hs hh hrow
        have hSh := hs.S hS
        refine v_iload_n X (dk D_Rf_undivert 29 rfl) rfl ?_
        refine v_iload_n X (dk D_Rf_undivert 30 rfl) rfl ?_
        refine v_icmp_ge (tgt := 76) X (dk D_Rf_undivert 31 rfl) (by decide) (fun _ => ?_) (fun c48 => absurd (nI_le (by omega) (by omega)) c48)
        exact v_vret X hlk hrt (dk D_Rf_undivert 46 rfl) ⟨rfl, hs, by rw [hbr]; exact hh⟩
      | succ d ih =>
        intro k h hkd hs hh hrow
        have hSh := hs.S hS
        have hro : (32768 : Int32) * nI i + nI k = nI (32768 * i + k) := by rw [show (32768 : Int32) = nI 32768 from rfl, pk_mul, nI_add]
        refine v_iload_n X (dk D_Rf_undivert 29 rfl) rfl ?_
        refine v_iload_n X (dk D_Rf_undivert 30 rfl) rfl ?_
        refine v_icmp_ge (tgt := 76) X (dk D_Rf_undivert 31 rfl) (by decide) (fun c48 => absurd c48 (nI_ge (by omega) (by omega))) (fun _ => ?_)
        refine v_aload_n X (dk D_Rf_undivert 32 rfl) rfl ?_
        refine v_aload_n X (dk D_Rf_undivert 33 rfl) rfl ?_
        refine v_getI X (dk D_Rf_undivert 34 rfl) F_Rf_220 rfl rfl (hSh.lt (by decide)) ?_
        rw [hh.1]
        refine v_aload_n X (dk D_Rf_undivert 35 rfl) rfl ?_
        refine v_getF X (dk D_Rf_undivert 36 rfl) F_Rf_50 rfl rfl (hSh.lt (by decide)) (hSh.2 1003 30) ?_
        refine v_ldc X (dk D_Rf_undivert 37 rfl) C_Rf_9 ?_
        refine v_iload_n X (dk D_Rf_undivert 38 rfl) rfl ?_
        refine v_imul X (dk D_Rf_undivert 39 rfl) ?_
        refine v_iload_n X (dk D_Rf_undivert 40 rfl) rfl ?_
        refine v_iadd X (dk D_Rf_undivert 41 rfl) ?_
        refine v_bald X (dk D_Rf_undivert 42 rfl) rfl (hSh.lt (by decide)) (by rw [hro]; exact vp_in_nI (show 32768 * i + k < 327680 by omega) (by decide)) ?_
        rw [hro, nI_clamp (by omega), hrow k (by omega)]
        refine v_invV (As := [.int (-1), .int ((D i).getD k 0)]) (st := []) X (r_divertN l q (x := ((D i).getD k 0))) (dk D_Rf_undivert 43 rfl) G_Rf_223 K_Rf_divertByte V_Rf_divertByte rfl rfl (hSh.lt (by decide)) rfl rfl (Nat.le_of_ble_eq_true rfl) (Nat.le_of_ble_eq_true rfl) (Nat.le_of_ble_eq_true rfl) (Nat.le_of_ble_eq_true rfl) (Nat.le_of_ble_eq_true rfl) ?_
        rintro v w1 ⟨rfl, hw⟩
        rw [hw]
        show Vv _ _ _ _ _ _ _ _ _ _ _ _ _ _ _ [] (0, 0, h)
        refine v_iinc (v := nI (k + 1)) (lb := [some (.ref 1003), some (.int (nI i)), some (.int (nI (D i).length)), some (.int (nI (k + 1)))]) X (dk D_Rf_undivert 44 rfl) rfl (nI_1 _) (by decide) rfl ?_
        refine v_goto (tgt := 46) X (dk D_Rf_undivert 45 rfl) (by decide) ?_
        exact ih (k + 1) h (by omega) hs hh hrow
    refine v_iload_n X (dk D_Rf_undivert 0 rfl) rfl ?_
    refine v_iconst (v := 1) X (dk D_Rf_undivert 1 rfl) (by decide) ?_
    refine v_icmp_lt (tgt := 19) X (dk D_Rf_undivert 2 rfl) (by decide) (fun c2 => absurd c2 (nI_nlt (b := 1) (by omega) (by omega))) (fun _ => ?_)
    refine v_iload_n X (dk D_Rf_undivert 3 rfl) rfl ?_
    refine v_bipush (v := 9) X (dk D_Rf_undivert 4 rfl) (by decide) ?_
    refine v_icmp_gt (tgt := 19) X (dk D_Rf_undivert 5 rfl) (by decide) (fun c8 => absurd c8 (nI_nlt (a := 9) (b := i) (by omega) (by decide))) (fun _ => ?_)
    refine v_iload_n X (dk D_Rf_undivert 6 rfl) rfl ?_
    refine v_aload_n X (dk D_Rf_undivert 7 rfl) rfl ?_
    refine v_getI X (dk D_Rf_undivert 8 rfl) F_Rf_220 rfl rfl (hS.lt (by decide)) ?_
    refine v_icmp_ne (tgt := 20) X (dk D_Rf_undivert 9 rfl) (by decide) (fun _ => ?_) (fun c16 => absurd c16 (by rw [hD.1]; exact hne))
    refine v_aload_n X (dk D_Rf_undivert 11 rfl) rfl ?_
    refine v_getF X (dk D_Rf_undivert 12 rfl) F_Rf_53 rfl rfl (hS.lt (by decide)) (hS.2 1003 31) ?_
    refine v_iload_n X (dk D_Rf_undivert 13 rfl) rfl ?_
    refine v_iald X (dk D_Rf_undivert 14 rfl) rfl (hS.lt (by decide)) (vp_in_nI (show i < 10 by omega) (by decide)) ?_
    rw [nI_clamp (by omega), (hD.2.2.2.2 i hi10).1]
    refine v_istore_n (lb := [some (.ref 1003), some (.int (nI i)), some (.int (nI (D i).length)), none]) X (dk D_Rf_undivert 15 rfl) (by decide) rfl ?_
    refine v_aload_n X (dk D_Rf_undivert 16 rfl) rfl ?_
    refine v_getF X (dk D_Rf_undivert 17 rfl) F_Rf_53 rfl rfl (hS.lt (by decide)) (hS.2 1003 31) ?_
    refine v_iload_n X (dk D_Rf_undivert 18 rfl) rfl ?_
    refine v_iconst (v := 0) X (dk D_Rf_undivert 19 rfl) (by decide) ?_
    refine v_iast X (dk D_Rf_undivert 20 rfl) rfl (hS.lt (by decide)) (vp_in_nI (show i < 10 by omega) (by decide)) ?_
    rw [nI_clamp (by omega)]
    refine v_aload_n X (dk D_Rf_undivert 21 rfl) rfl ?_
    refine v_aload_n X (dk D_Rf_undivert 22 rfl) rfl ?_
    refine v_getI X (dk D_Rf_undivert 23 rfl) F_Rf_217 rfl rfl (hS.lt (by decide)) ?_
    rw [show gI (xI g 1017 i 0) 1003 32 = nI (dvt D) from (gI_na (by decide)).trans hD.2.2.1]
    refine v_iload_n X (dk D_Rf_undivert 24 rfl) rfl ?_
    refine v_isub X (dk D_Rf_undivert 25 rfl) ?_
    rw [pk_sub hdi]
    refine v_putI X (dk D_Rf_undivert 26 rfl) F_Rf_217 CK_Rf rfl rfl (hS.lt (by decide)) rfl rfl ?_
    refine v_iconst (v := nI 0) X (dk D_Rf_undivert 27 rfl) (by decide) ?_
    refine v_istore_n (lb := [some (.ref 1003), some (.int (nI i)), some (.int (nI (D i).length)), some (.int (nI 0))]) X (dk D_Rf_undivert 28 rfl) (by decide) rfl ?_
    exact loop (D i).length 0 _ (by omega) (((rs.rf g _ _).rI (by decide) (by decide)).fI (by decide)) (by exact hDD) (fun j hj => (gI_na (by decide)).trans ((gI_na (by decide)).trans ((hD.2.2.2.2 i hi10).2 j hj)))
  · have hbr : brX (nI c) D (nI i) = va_up (va_up D c (D c ++ D i)) i [] := by rw [brX, if_neg hnb, if_neg (fun z => absurd z (by intro z; exact absurd (show nI c < 0 by rw [z]; decide) (nI_pos (by omega)))), nI_clamp (by omega), nI_clamp (by omega)]
    have hid : va_up D c (D c) = D := va_up_id
    have loop : ∀ (d k : Nat) (h : mu_T), k + d = (D i).length → rs g h [32] [1016, 1017] → DVR h (nI c) (va_up (va_up D c (D c ++ (D i).take k)) i []) → rwA h 1016 (32768 * i) (D i) → Vv pp l ee (rmT 3 0 0) ss mm aa bb mt cd 4 q (MQ bb (Qw q (fun v w => v = none ∧ rs g w.2.2 [32] [1016, 1017] ∧ DVR w.2.2 (nI c) (brX (nI c) D (nI i)))) aa ss 0 0 (fun a => q.1 ≤ a)) 46 [some (.ref 1003), some (.int (nI i)), some (.int (nI (D i).length)), some (.int (nI k))] [] (0, 0, h) := by
      intro d
      induction d with
      | zero =>
        intro k h hkd hs hh hrow
        have hSh := hs.S hS
        refine v_iload_n X (dk D_Rf_undivert 29 rfl) rfl ?_
        refine v_iload_n X (dk D_Rf_undivert 30 rfl) rfl ?_
        refine v_icmp_ge (tgt := 76) X (dk D_Rf_undivert 31 rfl) (by decide) (fun _ => ?_) (fun c48 => absurd (nI_le (by omega) (by omega)) c48)
        exact v_vret X hlk hrt (dk D_Rf_undivert 46 rfl) ⟨rfl, hs, by rw [hbr]; rw [List.take_of_length_le (by omega)] at hh; exact hh⟩
      | succ d ih =>
        intro k h hkd hs hh hrow
        have hSh := hs.S hS
        have hro : (32768 : Int32) * nI i + nI k = nI (32768 * i + k) := by rw [show (32768 : Int32) = nI 32768 from rfl, pk_mul, nI_add]
        have hci : c ≠ i := fun z => hne (by rw [z])
        have hu1 := dvt_up (D := va_up D c (D c ++ (D i).take k)) (L := []) hi10
        have hu2 := dvt_up (D := D) (L := D c ++ (D i).take k) hc
        rw [va_up_ne' hci.symm] at hu1
        rw [List.length_append, List.length_take] at hu2
        rw [List.length_nil] at hu1
        have hfull : dvt (va_up (va_up D c (D c ++ (D i).take k)) i []) < 32768 := by omega
        have hge := dvt_ge (D := (va_up (va_up D c (D c ++ (D i).take k)) i [])) hc
        rw [va_up_ne' hci, va_up_eq, List.length_append, List.length_take] at hge
        have hst : va_up (va_up (va_up D c (D c ++ (D i).take k)) i []) c ((va_up (va_up D c (D c ++ (D i).take k)) i []) c ++ [((D i).getD k 0).toInt8.toInt32]) = va_up (va_up D c (D c ++ (D i).take (k + 1))) i [] := by rw [va_up_ne' hci, va_up_eq, va_up_cm hci.symm, va_up_up, take_s (by omega), show ((D i).getD k 0).toInt8.toInt32 = (D i).getD k 0 from hbt _ (getD_mem (by omega)), List.append_assoc]
        refine v_iload_n X (dk D_Rf_undivert 29 rfl) rfl ?_
        refine v_iload_n X (dk D_Rf_undivert 30 rfl) rfl ?_
        refine v_icmp_ge (tgt := 76) X (dk D_Rf_undivert 31 rfl) (by decide) (fun c48 => absurd c48 (nI_ge (by omega) (by omega))) (fun _ => ?_)
        refine v_aload_n X (dk D_Rf_undivert 32 rfl) rfl ?_
        refine v_aload_n X (dk D_Rf_undivert 33 rfl) rfl ?_
        refine v_getI X (dk D_Rf_undivert 34 rfl) F_Rf_220 rfl rfl (hSh.lt (by decide)) ?_
        rw [hh.1]
        refine v_aload_n X (dk D_Rf_undivert 35 rfl) rfl ?_
        refine v_getF X (dk D_Rf_undivert 36 rfl) F_Rf_50 rfl rfl (hSh.lt (by decide)) (hSh.2 1003 30) ?_
        refine v_ldc X (dk D_Rf_undivert 37 rfl) C_Rf_9 ?_
        refine v_iload_n X (dk D_Rf_undivert 38 rfl) rfl ?_
        refine v_imul X (dk D_Rf_undivert 39 rfl) ?_
        refine v_iload_n X (dk D_Rf_undivert 40 rfl) rfl ?_
        refine v_iadd X (dk D_Rf_undivert 41 rfl) ?_
        refine v_bald X (dk D_Rf_undivert 42 rfl) rfl (hSh.lt (by decide)) (by rw [hro]; exact vp_in_nI (show 32768 * i + k < 327680 by omega) (by decide)) ?_
        rw [hro, nI_clamp (by omega), hrow k (by omega)]
        refine v_invV (As := [.int (nI c), .int ((D i).getD k 0)]) (st := []) X (r_divert l q (x := ((D i).getD k 0)) (c := c) hSh hh hc hfull) (dk D_Rf_undivert 43 rfl) G_Rf_223 K_Rf_divertByte V_Rf_divertByte rfl rfl (hSh.lt (by decide)) rfl rfl (Nat.le_of_ble_eq_true rfl) (Nat.le_of_ble_eq_true rfl) (Nat.le_of_ble_eq_true rfl) (Nat.le_of_ble_eq_true rfl) (Nat.le_of_ble_eq_true rfl) ?_
        rintro v w1 ⟨rfl, a1, a2, a3⟩
        show Vv _ _ _ _ _ _ _ _ _ _ _ _ _ _ _ [] (0, 0, w1.2.2)
        refine v_iinc (v := nI (k + 1)) (lb := [some (.ref 1003), some (.int (nI i)), some (.int (nI (D i).length)), some (.int (nI (k + 1)))]) X (dk D_Rf_undivert 44 rfl) rfl (nI_1 _) (by decide) rfl ?_
        refine v_goto (tgt := 46) X (dk D_Rf_undivert 45 rfl) (by decide) ?_
        exact ih (k + 1) w1.2.2 (by omega) (hs.tr a1) (by rw [hst] at a2; exact a2) (fun j hj => by rw [a3 _ (by rw [va_up_ne' hci, va_up_eq, List.length_append, List.length_take]; omega)]; exact hrow j hj)
    refine v_iload_n X (dk D_Rf_undivert 0 rfl) rfl ?_
    refine v_iconst (v := 1) X (dk D_Rf_undivert 1 rfl) (by decide) ?_
    refine v_icmp_lt (tgt := 19) X (dk D_Rf_undivert 2 rfl) (by decide) (fun c2 => absurd c2 (nI_nlt (b := 1) (by omega) (by omega))) (fun _ => ?_)
    refine v_iload_n X (dk D_Rf_undivert 3 rfl) rfl ?_
    refine v_bipush (v := 9) X (dk D_Rf_undivert 4 rfl) (by decide) ?_
    refine v_icmp_gt (tgt := 19) X (dk D_Rf_undivert 5 rfl) (by decide) (fun c8 => absurd c8 (nI_nlt (a := 9) (b := i) (by omega) (by decide))) (fun _ => ?_)
    refine v_iload_n X (dk D_Rf_undivert 6 rfl) rfl ?_
    refine v_aload_n X (dk D_Rf_undivert 7 rfl) rfl ?_
    refine v_getI X (dk D_Rf_undivert 8 rfl) F_Rf_220 rfl rfl (hS.lt (by decide)) ?_
    refine v_icmp_ne (tgt := 20) X (dk D_Rf_undivert 9 rfl) (by decide) (fun _ => ?_) (fun c16 => absurd c16 (by rw [hD.1]; exact hne))
    refine v_aload_n X (dk D_Rf_undivert 11 rfl) rfl ?_
    refine v_getF X (dk D_Rf_undivert 12 rfl) F_Rf_53 rfl rfl (hS.lt (by decide)) (hS.2 1003 31) ?_
    refine v_iload_n X (dk D_Rf_undivert 13 rfl) rfl ?_
    refine v_iald X (dk D_Rf_undivert 14 rfl) rfl (hS.lt (by decide)) (vp_in_nI (show i < 10 by omega) (by decide)) ?_
    rw [nI_clamp (by omega), (hD.2.2.2.2 i hi10).1]
    refine v_istore_n (lb := [some (.ref 1003), some (.int (nI i)), some (.int (nI (D i).length)), none]) X (dk D_Rf_undivert 15 rfl) (by decide) rfl ?_
    refine v_aload_n X (dk D_Rf_undivert 16 rfl) rfl ?_
    refine v_getF X (dk D_Rf_undivert 17 rfl) F_Rf_53 rfl rfl (hS.lt (by decide)) (hS.2 1003 31) ?_
    refine v_iload_n X (dk D_Rf_undivert 18 rfl) rfl ?_
    refine v_iconst (v := 0) X (dk D_Rf_undivert 19 rfl) (by decide) ?_
    refine v_iast X (dk D_Rf_undivert 20 rfl) rfl (hS.lt (by decide)) (vp_in_nI (show i < 10 by omega) (by decide)) ?_
    rw [nI_clamp (by omega)]
    refine v_aload_n X (dk D_Rf_undivert 21 rfl) rfl ?_
    refine v_aload_n X (dk D_Rf_undivert 22 rfl) rfl ?_
    refine v_getI X (dk D_Rf_undivert 23 rfl) F_Rf_217 rfl rfl (hS.lt (by decide)) ?_
    rw [show gI (xI g 1017 i 0) 1003 32 = nI (dvt D) from (gI_na (by decide)).trans hD.2.2.1]
    refine v_iload_n X (dk D_Rf_undivert 24 rfl) rfl ?_
    refine v_isub X (dk D_Rf_undivert 25 rfl) ?_
    rw [pk_sub hdi]
    refine v_putI X (dk D_Rf_undivert 26 rfl) F_Rf_217 CK_Rf rfl rfl (hS.lt (by decide)) rfl rfl ?_
    refine v_iconst (v := nI 0) X (dk D_Rf_undivert 27 rfl) (by decide) ?_
    refine v_istore_n (lb := [some (.ref 1003), some (.int (nI i)), some (.int (nI (D i).length)), some (.int (nI 0))]) X (dk D_Rf_undivert 28 rfl) (by decide) rfl ?_
    exact loop (D i).length 0 _ (by omega) (((rs.rf g _ _).rI (by decide) (by decide)).fI (by decide)) (by rw [List.take_zero, List.append_nil, hid]; exact hDD) (fun j hj => (gI_na (by decide)).trans ((gI_na (by decide)).trans ((hD.2.2.2.2 i hi10).2 j hj)))
