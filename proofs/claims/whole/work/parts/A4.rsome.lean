/-! the reference: a piece of an argument -/
theorem ctY_eq {a : List Int32} {x9 : Nat} {y : Int32} (hX : x9 < 1073741824) (ha : a.length ≤ 16384) : ctY a (some (nI x9)) (some y) = some ((a.drop x9).take y.toNatClampNeg) := by
  rw [ctY]
  refine congrArg some ?_
  have hy : y.toNatClampNeg = y.toInt.toNat := rfl
  by_cases c1 : a.length ≤ x9
  · rw [if_neg (fun z => z.2.1 (nI_le c1 (by omega))), List.drop_eq_nil_of_le c1, List.take_nil]
  by_cases c2 : y ≤ 0
  · have h2 := Int32.le_iff_toInt_le.mp c2
    rw [if_neg (fun z => z.2.2 c2), hy, show y.toInt.toNat = 0 by have : (0 : Int32).toInt = 0 := rfl; omega, List.take_zero]
  · have h2 : ¬ y.toInt ≤ 0 := fun z => c2 (Int32.le_iff_toInt_le.mpr z)
    rw [if_pos ⟨nI_pos (by omega), nI_ge (by omega) (by omega), c2⟩, nI_clamp (by omega), pk_sub (by omega)]
    by_cases c3 : nI (a.length - x9) < y
    · have h3 := Int32.lt_iff_toInt_lt.mp c3
      rw [nI_toInt (by omega)] at h3
      rw [if_pos c3, nI_clamp (by omega), List.take_of_length_le (by rw [List.length_drop]; exact Nat.le_refl _), List.take_of_length_le (by rw [List.length_drop, hy]; omega)]
    · rw [if_neg c3]
theorem ctY_neg {a : List Int32} {x y : Int32} (h : x < 0) : ctY a (some x) (some y) = some [] := by
  rw [ctY, if_neg (fun z => z.1 h)]
theorem lt_clamp {j : Nat} {y : Int32} (hj : j < 1073741824) : nI j < y ↔ j < y.toNatClampNeg := by
  have hy : y.toNatClampNeg = y.toInt.toNat := rfl
  rw [Int32.lt_iff_toInt_lt, nI_toInt (by omega), hy]
  omega
theorem neg_nI {x9 : Nat} (h : x9 < 1073741824) : (-nI x9).toInt = -(x9 : Int) := by
  have := pk_sub_toInt (a := 0) (b := x9) (by decide) (by omega)
  rw [show nI 0 - nI x9 = -nI x9 from Int32.zero_sub _] at this
  omega
set_option maxHeartbeats 4000000 in
set_option maxRecDepth 100000 in
theorem r_giveSome (l : Launch) (q : ev_T) {fu : Nat} {f : Fr} {r : List Fr} {I : Ip} {F : List Int32} {g : mu_T} (hS : Shp g) (hI : RQ g fu I) (hE : GE g I F) (he : gI g 1003 2 = 0) (hC : AC g f r) : Ctr l q M_Rf_giveSome 3 [.ref 1003, .int (nI (na r)), .int (nI f.2.1.length)] (0, 0, g) (fun v w => v = none ∧ rs g w.2.2 [2, 3, 20] [1010] ∧ (∀ s, ctX f.2.1 = some s → GE w.2.2 I (F ++ s)) ∧ (ctX f.2.1 = none → gI w.2.2 1003 2 = 36 ∧ gI w.2.2 1003 3 = gI g 1003 10)) := by
  have hle := ag_le (f := f) (r := r) 0
  have h16 := hC.1.1.2.2
  have hrow := hC.1.1.arg 0
  have hna : na r + f.2.1.length ≤ 8192 := hC.1.2.2.1
  have z3 : rs g (xI (xI g 1003 2 36) 1003 3 (gI g 1003 10)) [2, 3] [] := ((rs.rf g _ _).fI (by decide)).fI (by decide)
  have hS3 := z3.S hS
  have hC3 := hC.rs z3 (by decide) (by decide) (by decide)
  refine Ctr.mk (lb := [some (.ref 1003), some (.int (nI (na r))), some (.int (nI f.2.1.length)), none, none, none, none]) (by decide +kernel) (Nat.le_of_ble_eq_true rfl) rfl rfl ?_
  intro pp ee ss mm aa bb mt cd X hrt hlk hnm
  refine v_inv (fun hBB _ => ?_)
  have hbt : ∀ x ∈ (f.2.1.getD 0 []), isByte x := rw_byte hBB (r := 1018) (N := 16385) rfl hrow
  have errx : ctX f.2.1 = none → ∀ (a b c : Int32), Vv pp l ee (rmT 3 0 0) ss mm aa bb mt cd 7 q (MQ bb (Qw q (fun v w => v = none ∧ rs g w.2.2 [2, 3, 20] [1010] ∧ (∀ s, ctX f.2.1 = some s → GE w.2.2 I (F ++ s)) ∧ (ctX f.2.1 = none → gI w.2.2 1003 2 = 36 ∧ gI w.2.2 1003 3 = gI g 1003 10))) aa ss 0 0 (fun a => q.1 ≤ a)) 36 [some (.ref 1003), some (.int (nI (na r))), some (.int (nI f.2.1.length)), some (.int (nI (f.2.1.getD 0 []).length)), some (.int a), some (.int b), some (.int c)] [] (0, 0, (xI (xI g 1003 2 36) 1003 3 (gI g 1003 10))) := by
    intro hn a b c
    refine v_aload_n X (dk D_Rf_giveSome 22 rfl) rfl ?_
    refine v_getI X (dk D_Rf_giveSome 23 rfl) F_Rf_72 rfl rfl (hS3.lt (by decide)) ?_
    refine v_if_ne (tgt := 88) X (dk D_Rf_giveSome 24 rfl) (by decide) (fun _ => ?_) (fun c40 => absurd c40 (by rw [gI_nk (by decide), gI_eq]; decide))
    exact v_vret X hlk hrt (dk D_Rf_giveSome 48 rfl) ⟨rfl, z3.mono (by simp) (by simp), fun s hs => (by rw [hs] at hn; cases hn), fun _ => ⟨(gI_nk (by decide)).trans (gI_eq _ _ _ _), gI_eq _ _ _ _⟩⟩
  have loop : ∀ (x9 : Nat) (Y : Int32), x9 < 1073741824 → ctX f.2.1 = some (((f.2.1.getD 0 []).drop x9).take Y.toNatClampNeg) → ∀ (d j : Nat) (h : mu_T), j + d = (((f.2.1.getD 0 []).drop x9).take Y.toNatClampNeg).length → rs g h [2, 3, 20] [1010] → GE h I (F ++ (((f.2.1.getD 0 []).drop x9).take Y.toNatClampNeg).take j) → Vv pp l ee (rmT 3 0 0) ss mm aa bb mt cd 7 q (MQ bb (Qw q (fun v w => v = none ∧ rs g w.2.2 [2, 3, 20] [1010] ∧ (∀ s, ctX f.2.1 = some s → GE w.2.2 I (F ++ s)) ∧ (ctX f.2.1 = none → gI w.2.2 1003 2 = 36 ∧ gI w.2.2 1003 3 = gI g 1003 10))) aa ss 0 0 (fun a => q.1 ≤ a)) 36 [some (.ref 1003), some (.int (nI (na r))), some (.int (nI f.2.1.length)), some (.int (nI (f.2.1.getD 0 []).length)), some (.int (nI x9)), some (.int Y), some (.int (nI (x9 + j)))] [] (0, 0, h) := by
    intro x9 Y hX hct d
    have hSl : (((f.2.1.getD 0 []).drop x9).take Y.toNatClampNeg).length = min Y.toNatClampNeg ((f.2.1.getD 0 []).length - x9) := by rw [List.length_take, List.length_drop]
    induction d with
    | zero =>
      intro j h hjd hs hh
      have hSh := hs.S hS
      have hsub : nI (x9 + j) - nI x9 = nI j := by rw [pk_sub (by omega), Nat.add_sub_cancel_left]
      by_cases cerr : ¬ gI h 1003 2 = 0
      · refine v_aload_n X (dk D_Rf_giveSome 22 rfl) rfl ?_
        refine v_getI X (dk D_Rf_giveSome 23 rfl) F_Rf_72 rfl rfl (hSh.lt (by decide)) ?_
        refine v_if_ne (tgt := 88) X (dk D_Rf_giveSome 24 rfl) (by decide) (fun _ => ?_) (fun c40 => absurd c40 cerr)
        exact v_vret X hlk hrt (dk D_Rf_giveSome 48 rfl) ⟨rfl, hs, fun s hs9 => (by rw [hct] at hs9; cases hs9; rw [← List.take_append_drop j (((f.2.1.getD 0 []).drop x9).take Y.toNatClampNeg), ← List.append_assoc]; exact hh.more cerr _), fun hn => by rw [hct] at hn; cases hn⟩
      have he0 := Decidable.not_not.mp cerr
      by_cases cn : (f.2.1.getD 0 []).length ≤ x9 + j
      · refine v_aload_n X (dk D_Rf_giveSome 22 rfl) rfl ?_
        refine v_getI X (dk D_Rf_giveSome 23 rfl) F_Rf_72 rfl rfl (hSh.lt (by decide)) ?_
        refine v_if_ne (tgt := 88) X (dk D_Rf_giveSome 24 rfl) (by decide) (fun c40 => absurd he0 c40) (fun _ => ?_)
        refine v_iload X (dk D_Rf_giveSome 25 rfl) rfl ?_
        refine v_if_lt (tgt := 88) X (dk D_Rf_giveSome 26 rfl) (by decide) (fun c45 => absurd c45 (nI_pos (by omega))) (fun _ => ?_)
        refine v_iload X (dk D_Rf_giveSome 27 rfl) rfl ?_
        refine v_iload_n X (dk D_Rf_giveSome 28 rfl) rfl ?_
        refine v_icmp_ge (tgt := 88) X (dk D_Rf_giveSome 29 rfl) (by decide) (fun _ => ?_) (fun c51 => absurd (nI_le (by omega) (by omega)) c51)
        exact v_vret X hlk hrt (dk D_Rf_giveSome 48 rfl) ⟨rfl, hs, fun s hs9 => (by rw [hct] at hs9; cases hs9; rw [List.take_of_length_le (by omega)] at hh; exact hh), fun hn => by rw [hct] at hn; cases hn⟩
      · have cY : ¬ j < Y.toNatClampNeg := by omega
        refine v_aload_n X (dk D_Rf_giveSome 22 rfl) rfl ?_
        refine v_getI X (dk D_Rf_giveSome 23 rfl) F_Rf_72 rfl rfl (hSh.lt (by decide)) ?_
        refine v_if_ne (tgt := 88) X (dk D_Rf_giveSome 24 rfl) (by decide) (fun c40 => absurd he0 c40) (fun _ => ?_)
        refine v_iload X (dk D_Rf_giveSome 25 rfl) rfl ?_
        refine v_if_lt (tgt := 88) X (dk D_Rf_giveSome 26 rfl) (by decide) (fun c45 => absurd c45 (nI_pos (by omega))) (fun _ => ?_)
        refine v_iload X (dk D_Rf_giveSome 27 rfl) rfl ?_
        refine v_iload_n X (dk D_Rf_giveSome 28 rfl) rfl ?_
        refine v_icmp_ge (tgt := 88) X (dk D_Rf_giveSome 29 rfl) (by decide) (fun c51 => absurd c51 (nI_ge (by omega) (by omega))) (fun _ => ?_)
        refine v_iload X (dk D_Rf_giveSome 30 rfl) rfl ?_
        refine v_iload X (dk D_Rf_giveSome 31 rfl) rfl ?_
        refine v_isub X (dk D_Rf_giveSome 32 rfl) ?_
        refine v_iload X (dk D_Rf_giveSome 33 rfl) rfl ?_
        refine v_icmp_ge (tgt := 88) X (dk D_Rf_giveSome 34 rfl) (by decide) (fun _ => ?_) (fun c61 => absurd (by rw [hsub]; exact Int32.not_lt.mp (fun z => cY ((lt_clamp (by omega)).mp z))) c61)
        exact v_vret X hlk hrt (dk D_Rf_giveSome 48 rfl) ⟨rfl, hs, fun s hs9 => (by rw [hct] at hs9; cases hs9; rw [List.take_of_length_le (by omega)] at hh; exact hh), fun hn => by rw [hct] at hn; cases hn⟩
    | succ d ih =>
      intro j h hjd hs hh
      have hSh := hs.S hS
      have hsub : nI (x9 + j) - nI x9 = nI j := by rw [pk_sub (by omega), Nat.add_sub_cancel_left]
      have hjY : j < Y.toNatClampNeg := by omega
      have hgd : ((f.2.1.getD 0 []).getD (x9 + j) 0) = (((f.2.1.getD 0 []).drop x9).take Y.toNatClampNeg).getD j 0 := by rw [sl_get hjY]
      by_cases cerr : ¬ gI h 1003 2 = 0
      · refine v_aload_n X (dk D_Rf_giveSome 22 rfl) rfl ?_
        refine v_getI X (dk D_Rf_giveSome 23 rfl) F_Rf_72 rfl rfl (hSh.lt (by decide)) ?_
        refine v_if_ne (tgt := 88) X (dk D_Rf_giveSome 24 rfl) (by decide) (fun _ => ?_) (fun c40 => absurd c40 cerr)
        exact v_vret X hlk hrt (dk D_Rf_giveSome 48 rfl) ⟨rfl, hs, fun s hs9 => (by rw [hct] at hs9; cases hs9; rw [← List.take_append_drop j (((f.2.1.getD 0 []).drop x9).take Y.toNatClampNeg), ← List.append_assoc]; exact hh.more cerr _), fun hn => by rw [hct] at hn; cases hn⟩
      · have he0 := Decidable.not_not.mp cerr
        refine v_aload_n X (dk D_Rf_giveSome 22 rfl) rfl ?_
        refine v_getI X (dk D_Rf_giveSome 23 rfl) F_Rf_72 rfl rfl (hSh.lt (by decide)) ?_
        refine v_if_ne (tgt := 88) X (dk D_Rf_giveSome 24 rfl) (by decide) (fun c40 => absurd he0 c40) (fun _ => ?_)
        refine v_iload X (dk D_Rf_giveSome 25 rfl) rfl ?_
        refine v_if_lt (tgt := 88) X (dk D_Rf_giveSome 26 rfl) (by decide) (fun c45 => absurd c45 (nI_pos (by omega))) (fun _ => ?_)
        refine v_iload X (dk D_Rf_giveSome 27 rfl) rfl ?_
        refine v_iload_n X (dk D_Rf_giveSome 28 rfl) rfl ?_
        refine v_icmp_ge (tgt := 88) X (dk D_Rf_giveSome 29 rfl) (by decide) (fun c51 => absurd c51 (nI_ge (by omega) (by omega))) (fun _ => ?_)
        refine v_iload X (dk D_Rf_giveSome 30 rfl) rfl ?_
        refine v_iload X (dk D_Rf_giveSome 31 rfl) rfl ?_
        refine v_isub X (dk D_Rf_giveSome 32 rfl) ?_
        refine v_iload X (dk D_Rf_giveSome 33 rfl) rfl ?_
        refine v_icmp_ge (tgt := 88) X (dk D_Rf_giveSome 34 rfl) (by decide) (fun c61 => absurd c61 (by rw [hsub]; exact fun z => absurd ((lt_clamp (by omega)).mpr hjY) (Int32.not_lt.mpr z))) (fun _ => ?_)
        refine v_aload_n X (dk D_Rf_giveSome 35 rfl) rfl ?_
        refine v_aload_n X (dk D_Rf_giveSome 36 rfl) rfl ?_
        refine v_getF X (dk D_Rf_giveSome 37 rfl) F_Rf_56 rfl rfl (hSh.lt (by decide)) (hSh.2 1003 35) ?_
        refine v_aload_n X (dk D_Rf_giveSome 38 rfl) rfl ?_
        refine v_iload_n X (dk D_Rf_giveSome 39 rfl) rfl ?_
        refine v_iconst (v := nI (0 + 1)) X (dk D_Rf_giveSome 40 rfl) (by decide) ?_
        refine v_invV (As := [.int (nI (na r)), .int (nI (0 + 1))]) (st := [.ref 1018, .ref 1003]) X (r_argumentAt l q (i := 0) hSh (hC.kg hs) (by omega)) (dk D_Rf_giveSome 41 rfl) G_Rf_268 K_Rf_argumentAt V_Rf_argumentAt rfl rfl (hSh.lt (by decide)) rfl rfl (Nat.le_of_ble_eq_true rfl) (Nat.le_of_ble_eq_true rfl) (Nat.le_of_ble_eq_true rfl) (Nat.le_of_ble_eq_true rfl) (Nat.le_of_ble_eq_true rfl) ?_
        rintro v ws ⟨rfl, hws⟩
        rw [hws]
        show Vv _ _ _ _ _ _ _ _ _ _ _ _ _ _ _ [.int (nI (stA f r 0)), .ref 1018, .ref 1003] (0, 0, h)
        refine v_iload X (dk D_Rf_giveSome 42 rfl) rfl ?_
        refine v_iadd X (dk D_Rf_giveSome 43 rfl) ?_
        rw [nI_add]
        refine v_bald X (dk D_Rf_giveSome 44 rfl) rfl (hSh.lt (by decide)) (vp_in_nI (show stA f r 0 + (x9 + j) < 16385 by omega) (by decide)) ?_
        rw [nI_clamp (by omega), hs.row (by decide) (by decide), hrow (x9 + j) (by omega)]
        refine v_invV (As := [.int ((f.2.1.getD 0 []).getD (x9 + j) 0)]) (st := []) X (r_give l q (x := ((f.2.1.getD 0 []).getD (x9 + j) 0)) hSh (hI.kg hs) hh) (dk D_Rf_giveSome 45 rfl) G_Rf_145 K_Rf_give V_Rf_give rfl rfl (hSh.lt (by decide)) rfl rfl (Nat.le_of_ble_eq_true rfl) (Nat.le_of_ble_eq_true rfl) (Nat.le_of_ble_eq_true rfl) (Nat.le_of_ble_eq_true rfl) (Nat.le_of_ble_eq_true rfl) ?_
        rintro v w1 ⟨rfl, a1, a2⟩
        rw [show ((f.2.1.getD 0 []).getD (x9 + j) 0).toInt8.toInt32 = ((f.2.1.getD 0 []).getD (x9 + j) 0) from hbt _ (getD_mem (by omega)), hgd, List.append_assoc, ← take_s (by omega)] at a2
        show Vv _ _ _ _ _ _ _ _ _ _ _ _ _ _ _ [] (0, 0, w1.2.2)
        refine v_iinc (v := nI (x9 + (j + 1))) (lb := [some (.ref 1003), some (.int (nI (na r))), some (.int (nI f.2.1.length)), some (.int (nI (f.2.1.getD 0 []).length)), some (.int (nI x9)), some (.int Y), some (.int (nI (x9 + (j + 1))))]) X (dk D_Rf_giveSome 46 rfl) rfl (nI_1 _) (by decide) rfl ?_
        refine v_goto (tgt := 36) X (dk D_Rf_giveSome 47 rfl) (by decide) ?_
        exact ih (j + 1) w1.2.2 (by omega) (hs.tr a1) a2
  have neg : ∀ (x Y : Int32), x < 0 → ctX f.2.1 = some [] → Vv pp l ee (rmT 3 0 0) ss mm aa bb mt cd 7 q (MQ bb (Qw q (fun v w => v = none ∧ rs g w.2.2 [2, 3, 20] [1010] ∧ (∀ s, ctX f.2.1 = some s → GE w.2.2 I (F ++ s)) ∧ (ctX f.2.1 = none → gI w.2.2 1003 2 = 36 ∧ gI w.2.2 1003 3 = gI g 1003 10))) aa ss 0 0 (fun a => q.1 ≤ a)) 36 [some (.ref 1003), some (.int (nI (na r))), some (.int (nI f.2.1.length)), some (.int (nI (f.2.1.getD 0 []).length)), some (.int x), some (.int Y), some (.int x)] [] (0, 0, g) := by
    intro x Y hx hct
    refine v_aload_n X (dk D_Rf_giveSome 22 rfl) rfl ?_
    refine v_getI X (dk D_Rf_giveSome 23 rfl) F_Rf_72 rfl rfl (hS.lt (by decide)) ?_
    refine v_if_ne (tgt := 88) X (dk D_Rf_giveSome 24 rfl) (by decide) (fun c40 => absurd he c40) (fun _ => ?_)
    refine v_iload X (dk D_Rf_giveSome 25 rfl) rfl ?_
    refine v_if_lt (tgt := 88) X (dk D_Rf_giveSome 26 rfl) (by decide) (fun _ => ?_) (fun c45 => absurd hx c45)
    exact v_vret X hlk hrt (dk D_Rf_giveSome 48 rfl) ⟨rfl, rs.rf g _ _, fun s hs9 => (by rw [hct] at hs9; cases hs9; rw [List.append_nil]; exact hE), fun hn => by rw [hct] at hn; cases hn⟩
  have both : ∀ (x Y y : Int32), nmX (f.2.1.getD 1 []) = some x → ctX f.2.1 = ctY (f.2.1.getD 0 []) (some x) (some y) → (∀ x9, ((f.2.1.getD 0 []).drop x9).take Y.toNatClampNeg = ((f.2.1.getD 0 []).drop x9).take y.toNatClampNeg) → Vv pp l ee (rmT 3 0 0) ss mm aa bb mt cd 7 q (MQ bb (Qw q (fun v w => v = none ∧ rs g w.2.2 [2, 3, 20] [1010] ∧ (∀ s, ctX f.2.1 = some s → GE w.2.2 I (F ++ s)) ∧ (ctX f.2.1 = none → gI w.2.2 1003 2 = 36 ∧ gI w.2.2 1003 3 = gI g 1003 10))) aa ss 0 0 (fun a => q.1 ≤ a)) 36 [some (.ref 1003), some (.int (nI (na r))), some (.int (nI f.2.1.length)), some (.int (nI (f.2.1.getD 0 []).length)), some (.int x), some (.int Y), some (.int x)] [] (0, 0, g) := by
    intro x Y y hx hct hYy
    by_cases c : x < 0
    · exact neg x Y c (by rw [hct, ctY_neg c])
    · have hX : ∃ x9, x9 < 1073741824 ∧ x = nI x9 := by
        rcases nmX_ne hx with ⟨x9, h1, h2⟩ | ⟨x9, h1, h2⟩
        · exact ⟨x9, by omega, h2⟩
        · refine ⟨0, by decide, ?_⟩
          rw [h2] at c ⊢
          have h3 : ¬ (-nI x9).toInt < 0 := fun z => c (Int32.lt_iff_toInt_lt.mpr z)
          rw [neg_nI (by omega)] at h3
          rw [show x9 = 0 by omega]; rfl
      obtain ⟨x9, hX1, rfl⟩ := hX
      exact loop x9 Y hX1 (by rw [hct, ctY_eq hX1 (by omega), hYy]) (((f.2.1.getD 0 []).drop x9).take Y.toNatClampNeg).length 0 g (by omega) (rs.rf g _ _) (by rw [List.take_zero, List.append_nil]; exact hE)
  rcases on_or (nmX (f.2.1.getD 1 [])) with h1 | ⟨x, h1⟩
  · have hct : ctX f.2.1 = none := by rw [ctX, h1]; rfl
    by_cases c : 2 < f.2.1.length
    · refine v_aload_n X (dk D_Rf_giveSome 0 rfl) rfl ?_
      refine v_iload_n X (dk D_Rf_giveSome 1 rfl) rfl ?_
      refine v_iconst (v := nI (0 + 1)) X (dk D_Rf_giveSome 2 rfl) (by decide) ?_
      refine v_invV (As := [.int (nI (na r)), .int (nI (0 + 1))]) (st := []) X (r_argumentSize l q (i := 0) hS hC (by omega)) (dk D_Rf_giveSome 3 rfl) G_Rf_272 K_Rf_argumentSize V_Rf_argumentSize rfl rfl (hS.lt (by decide)) rfl rfl (Nat.le_of_ble_eq_true rfl) (Nat.le_of_ble_eq_true rfl) (Nat.le_of_ble_eq_true rfl) (Nat.le_of_ble_eq_true rfl) (Nat.le_of_ble_eq_true rfl) ?_
      rintro v ws ⟨rfl, hws⟩
      rw [hws]
      show Vv _ _ _ _ _ _ _ _ _ _ _ _ _ _ _ [.int (nI (f.2.1.getD 0 []).length)] (0, 0, g)
      refine v_istore_n (lb := [some (.ref 1003), some (.int (nI (na r))), some (.int (nI f.2.1.length)), some (.int (nI (f.2.1.getD 0 []).length)), none, none, none]) X (dk D_Rf_giveSome 4 rfl) (by decide) rfl ?_
      refine v_aload_n X (dk D_Rf_giveSome 5 rfl) rfl ?_
      refine v_iload_n X (dk D_Rf_giveSome 6 rfl) rfl ?_
      refine v_iconst (v := nI (1 + 1)) X (dk D_Rf_giveSome 7 rfl) (by decide) ?_
      refine v_invV (As := [.int (nI (na r)), .int (nI (1 + 1))]) (st := []) X (r_number l q (i := 1) hS hC (by decide)) (dk D_Rf_giveSome 8 rfl) G_Rf_299 K_Rf_number V_Rf_number rfl rfl (hS.lt (by decide)) rfl rfl (Nat.le_of_ble_eq_true rfl) (Nat.le_of_ble_eq_true rfl) (Nat.le_of_ble_eq_true rfl) (Nat.le_of_ble_eq_true rfl) (Nat.le_of_ble_eq_true rfl) ?_
      rintro v w1 ⟨x1, rfl, p1, p2⟩
      rw [p2 h1, if_pos he]
      show Vv _ _ _ _ _ _ _ _ _ _ _ _ _ _ _ [.int x1] (0, 0, (xI (xI g 1003 2 36) 1003 3 (gI g 1003 10)))
      refine v_istore (lb := [some (.ref 1003), some (.int (nI (na r))), some (.int (nI f.2.1.length)), some (.int (nI (f.2.1.getD 0 []).length)), some (.int x1), none, none]) X (dk D_Rf_giveSome 9 rfl) (by decide) rfl ?_
      refine v_iload_n X (dk D_Rf_giveSome 10 rfl) rfl ?_
      refine v_iconst (v := 2) X (dk D_Rf_giveSome 11 rfl) (by decide) ?_
      refine v_icmp_le (tgt := 29) X (dk D_Rf_giveSome 12 rfl) (by decide) (fun c17 => absurd c17 (fun z => absurd ((nI_leI (b := 2) (by omega) (by decide)).mp z) (by omega))) (fun _ => ?_)
      refine v_aload_n X (dk D_Rf_giveSome 13 rfl) rfl ?_
      refine v_iload_n X (dk D_Rf_giveSome 14 rfl) rfl ?_
      refine v_iconst (v := nI (2 + 1)) X (dk D_Rf_giveSome 15 rfl) (by decide) ?_
      refine v_invV (As := [.int (nI (na r)), .int (nI (2 + 1))]) (st := []) X (r_number l q (i := 2) hS3 hC3 (by decide)) (dk D_Rf_giveSome 16 rfl) G_Rf_299 K_Rf_number V_Rf_number rfl rfl (hS3.lt (by decide)) rfl rfl (Nat.le_of_ble_eq_true rfl) (Nat.le_of_ble_eq_true rfl) (Nat.le_of_ble_eq_true rfl) (Nat.le_of_ble_eq_true rfl) (Nat.le_of_ble_eq_true rfl) ?_
      rintro v w2 ⟨x2, rfl, p1, p2⟩
      have hww2 : w2.2.2 = (xI (xI g 1003 2 36) 1003 3 (gI g 1003 10)) := by
        rcases on_or (nmX (f.2.1.getD 2 [])) with z | ⟨y, z⟩
        · rw [p2 z, if_neg (by rw [gI_nk (by decide), gI_eq]; decide)]
        · exact (p1 y z).2
      rw [hww2]
      show Vv _ _ _ _ _ _ _ _ _ _ _ _ _ _ _ [.int x2] (0, 0, (xI (xI g 1003 2 36) 1003 3 (gI g 1003 10)))
      refine v_goto (tgt := 30) X (dk D_Rf_giveSome 17 rfl) (by decide) ?_
      refine v_istore (lb := [some (.ref 1003), some (.int (nI (na r))), some (.int (nI f.2.1.length)), some (.int (nI (f.2.1.getD 0 []).length)), some (.int x1), some (.int x2), none]) X (dk D_Rf_giveSome 19 rfl) (by decide) rfl ?_
      refine v_iload X (dk D_Rf_giveSome 20 rfl) rfl ?_
      refine v_istore (lb := [some (.ref 1003), some (.int (nI (na r))), some (.int (nI f.2.1.length)), some (.int (nI (f.2.1.getD 0 []).length)), some (.int x1), some (.int x2), some (.int x1)]) X (dk D_Rf_giveSome 21 rfl) (by decide) rfl ?_
      exact errx hct _ _ _
    · refine v_aload_n X (dk D_Rf_giveSome 0 rfl) rfl ?_
      refine v_iload_n X (dk D_Rf_giveSome 1 rfl) rfl ?_
      refine v_iconst (v := nI (0 + 1)) X (dk D_Rf_giveSome 2 rfl) (by decide) ?_
      refine v_invV (As := [.int (nI (na r)), .int (nI (0 + 1))]) (st := []) X (r_argumentSize l q (i := 0) hS hC (by omega)) (dk D_Rf_giveSome 3 rfl) G_Rf_272 K_Rf_argumentSize V_Rf_argumentSize rfl rfl (hS.lt (by decide)) rfl rfl (Nat.le_of_ble_eq_true rfl) (Nat.le_of_ble_eq_true rfl) (Nat.le_of_ble_eq_true rfl) (Nat.le_of_ble_eq_true rfl) (Nat.le_of_ble_eq_true rfl) ?_
      rintro v ws ⟨rfl, hws⟩
      rw [hws]
      show Vv _ _ _ _ _ _ _ _ _ _ _ _ _ _ _ [.int (nI (f.2.1.getD 0 []).length)] (0, 0, g)
      refine v_istore_n (lb := [some (.ref 1003), some (.int (nI (na r))), some (.int (nI f.2.1.length)), some (.int (nI (f.2.1.getD 0 []).length)), none, none, none]) X (dk D_Rf_giveSome 4 rfl) (by decide) rfl ?_
      refine v_aload_n X (dk D_Rf_giveSome 5 rfl) rfl ?_
      refine v_iload_n X (dk D_Rf_giveSome 6 rfl) rfl ?_
      refine v_iconst (v := nI (1 + 1)) X (dk D_Rf_giveSome 7 rfl) (by decide) ?_
      refine v_invV (As := [.int (nI (na r)), .int (nI (1 + 1))]) (st := []) X (r_number l q (i := 1) hS hC (by decide)) (dk D_Rf_giveSome 8 rfl) G_Rf_299 K_Rf_number V_Rf_number rfl rfl (hS.lt (by decide)) rfl rfl (Nat.le_of_ble_eq_true rfl) (Nat.le_of_ble_eq_true rfl) (Nat.le_of_ble_eq_true rfl) (Nat.le_of_ble_eq_true rfl) (Nat.le_of_ble_eq_true rfl) ?_
      rintro v w1 ⟨x1, rfl, p1, p2⟩
      rw [p2 h1, if_pos he]
      show Vv _ _ _ _ _ _ _ _ _ _ _ _ _ _ _ [.int x1] (0, 0, (xI (xI g 1003 2 36) 1003 3 (gI g 1003 10)))
      refine v_istore (lb := [some (.ref 1003), some (.int (nI (na r))), some (.int (nI f.2.1.length)), some (.int (nI (f.2.1.getD 0 []).length)), some (.int x1), none, none]) X (dk D_Rf_giveSome 9 rfl) (by decide) rfl ?_
      refine v_iload_n X (dk D_Rf_giveSome 10 rfl) rfl ?_
      refine v_iconst (v := 2) X (dk D_Rf_giveSome 11 rfl) (by decide) ?_
      refine v_icmp_le (tgt := 29) X (dk D_Rf_giveSome 12 rfl) (by decide) (fun _ => ?_) (fun c17 => absurd (nI_le (b := 2) (by omega) (by decide)) c17)
      refine v_iload_n X (dk D_Rf_giveSome 18 rfl) rfl ?_
      refine v_istore (lb := [some (.ref 1003), some (.int (nI (na r))), some (.int (nI f.2.1.length)), some (.int (nI (f.2.1.getD 0 []).length)), some (.int x1), some (.int (nI (f.2.1.getD 0 []).length)), none]) X (dk D_Rf_giveSome 19 rfl) (by decide) rfl ?_
      refine v_iload X (dk D_Rf_giveSome 20 rfl) rfl ?_
      refine v_istore (lb := [some (.ref 1003), some (.int (nI (na r))), some (.int (nI f.2.1.length)), some (.int (nI (f.2.1.getD 0 []).length)), some (.int x1), some (.int (nI (f.2.1.getD 0 []).length)), some (.int x1)]) X (dk D_Rf_giveSome 21 rfl) (by decide) rfl ?_
      exact errx hct _ _ _
  · by_cases c : 2 < f.2.1.length
    · rcases on_or (nmX (f.2.1.getD 2 [])) with h2 | ⟨y, h2⟩
      · have hct : ctX f.2.1 = none := by rw [ctX, h1, if_pos c, h2]; rfl
        refine v_aload_n X (dk D_Rf_giveSome 0 rfl) rfl ?_
        refine v_iload_n X (dk D_Rf_giveSome 1 rfl) rfl ?_
        refine v_iconst (v := nI (0 + 1)) X (dk D_Rf_giveSome 2 rfl) (by decide) ?_
        refine v_invV (As := [.int (nI (na r)), .int (nI (0 + 1))]) (st := []) X (r_argumentSize l q (i := 0) hS hC (by omega)) (dk D_Rf_giveSome 3 rfl) G_Rf_272 K_Rf_argumentSize V_Rf_argumentSize rfl rfl (hS.lt (by decide)) rfl rfl (Nat.le_of_ble_eq_true rfl) (Nat.le_of_ble_eq_true rfl) (Nat.le_of_ble_eq_true rfl) (Nat.le_of_ble_eq_true rfl) (Nat.le_of_ble_eq_true rfl) ?_
        rintro v ws ⟨rfl, hws⟩
        rw [hws]
        show Vv _ _ _ _ _ _ _ _ _ _ _ _ _ _ _ [.int (nI (f.2.1.getD 0 []).length)] (0, 0, g)
        refine v_istore_n (lb := [some (.ref 1003), some (.int (nI (na r))), some (.int (nI f.2.1.length)), some (.int (nI (f.2.1.getD 0 []).length)), none, none, none]) X (dk D_Rf_giveSome 4 rfl) (by decide) rfl ?_
        refine v_aload_n X (dk D_Rf_giveSome 5 rfl) rfl ?_
        refine v_iload_n X (dk D_Rf_giveSome 6 rfl) rfl ?_
        refine v_iconst (v := nI (1 + 1)) X (dk D_Rf_giveSome 7 rfl) (by decide) ?_
        refine v_invV (As := [.int (nI (na r)), .int (nI (1 + 1))]) (st := []) X (r_number l q (i := 1) hS hC (by decide)) (dk D_Rf_giveSome 8 rfl) G_Rf_299 K_Rf_number V_Rf_number rfl rfl (hS.lt (by decide)) rfl rfl (Nat.le_of_ble_eq_true rfl) (Nat.le_of_ble_eq_true rfl) (Nat.le_of_ble_eq_true rfl) (Nat.le_of_ble_eq_true rfl) (Nat.le_of_ble_eq_true rfl) ?_
        rintro v w1 ⟨x1, rfl, p1, p2⟩
        obtain ⟨e1, hw⟩ := p1 _ h1
        rw [hw, e1]
        show Vv _ _ _ _ _ _ _ _ _ _ _ _ _ _ _ [.int x] (0, 0, g)
        refine v_istore (lb := [some (.ref 1003), some (.int (nI (na r))), some (.int (nI f.2.1.length)), some (.int (nI (f.2.1.getD 0 []).length)), some (.int x), none, none]) X (dk D_Rf_giveSome 9 rfl) (by decide) rfl ?_
        refine v_iload_n X (dk D_Rf_giveSome 10 rfl) rfl ?_
        refine v_iconst (v := 2) X (dk D_Rf_giveSome 11 rfl) (by decide) ?_
        refine v_icmp_le (tgt := 29) X (dk D_Rf_giveSome 12 rfl) (by decide) (fun c17 => absurd c17 (fun z => absurd ((nI_leI (b := 2) (by omega) (by decide)).mp z) (by omega))) (fun _ => ?_)
        refine v_aload_n X (dk D_Rf_giveSome 13 rfl) rfl ?_
        refine v_iload_n X (dk D_Rf_giveSome 14 rfl) rfl ?_
        refine v_iconst (v := nI (2 + 1)) X (dk D_Rf_giveSome 15 rfl) (by decide) ?_
        refine v_invV (As := [.int (nI (na r)), .int (nI (2 + 1))]) (st := []) X (r_number l q (i := 2) hS hC (by decide)) (dk D_Rf_giveSome 16 rfl) G_Rf_299 K_Rf_number V_Rf_number rfl rfl (hS.lt (by decide)) rfl rfl (Nat.le_of_ble_eq_true rfl) (Nat.le_of_ble_eq_true rfl) (Nat.le_of_ble_eq_true rfl) (Nat.le_of_ble_eq_true rfl) (Nat.le_of_ble_eq_true rfl) ?_
        rintro v w2 ⟨x2, rfl, p1, p2⟩
        rw [p2 h2, if_pos he]
        show Vv _ _ _ _ _ _ _ _ _ _ _ _ _ _ _ [.int x2] (0, 0, (xI (xI g 1003 2 36) 1003 3 (gI g 1003 10)))
        refine v_goto (tgt := 30) X (dk D_Rf_giveSome 17 rfl) (by decide) ?_
        refine v_istore (lb := [some (.ref 1003), some (.int (nI (na r))), some (.int (nI f.2.1.length)), some (.int (nI (f.2.1.getD 0 []).length)), some (.int x), some (.int x2), none]) X (dk D_Rf_giveSome 19 rfl) (by decide) rfl ?_
        refine v_iload X (dk D_Rf_giveSome 20 rfl) rfl ?_
        refine v_istore (lb := [some (.ref 1003), some (.int (nI (na r))), some (.int (nI f.2.1.length)), some (.int (nI (f.2.1.getD 0 []).length)), some (.int x), some (.int x2), some (.int x)]) X (dk D_Rf_giveSome 21 rfl) (by decide) rfl ?_
        exact errx hct _ _ _
      · have hct : ctX f.2.1 = ctY (f.2.1.getD 0 []) (some x) (some y) := by rw [ctX, h1, if_pos c, h2]
        refine v_aload_n X (dk D_Rf_giveSome 0 rfl) rfl ?_
        refine v_iload_n X (dk D_Rf_giveSome 1 rfl) rfl ?_
        refine v_iconst (v := nI (0 + 1)) X (dk D_Rf_giveSome 2 rfl) (by decide) ?_
        refine v_invV (As := [.int (nI (na r)), .int (nI (0 + 1))]) (st := []) X (r_argumentSize l q (i := 0) hS hC (by omega)) (dk D_Rf_giveSome 3 rfl) G_Rf_272 K_Rf_argumentSize V_Rf_argumentSize rfl rfl (hS.lt (by decide)) rfl rfl (Nat.le_of_ble_eq_true rfl) (Nat.le_of_ble_eq_true rfl) (Nat.le_of_ble_eq_true rfl) (Nat.le_of_ble_eq_true rfl) (Nat.le_of_ble_eq_true rfl) ?_
        rintro v ws ⟨rfl, hws⟩
        rw [hws]
        show Vv _ _ _ _ _ _ _ _ _ _ _ _ _ _ _ [.int (nI (f.2.1.getD 0 []).length)] (0, 0, g)
        refine v_istore_n (lb := [some (.ref 1003), some (.int (nI (na r))), some (.int (nI f.2.1.length)), some (.int (nI (f.2.1.getD 0 []).length)), none, none, none]) X (dk D_Rf_giveSome 4 rfl) (by decide) rfl ?_
        refine v_aload_n X (dk D_Rf_giveSome 5 rfl) rfl ?_
        refine v_iload_n X (dk D_Rf_giveSome 6 rfl) rfl ?_
        refine v_iconst (v := nI (1 + 1)) X (dk D_Rf_giveSome 7 rfl) (by decide) ?_
        refine v_invV (As := [.int (nI (na r)), .int (nI (1 + 1))]) (st := []) X (r_number l q (i := 1) hS hC (by decide)) (dk D_Rf_giveSome 8 rfl) G_Rf_299 K_Rf_number V_Rf_number rfl rfl (hS.lt (by decide)) rfl rfl (Nat.le_of_ble_eq_true rfl) (Nat.le_of_ble_eq_true rfl) (Nat.le_of_ble_eq_true rfl) (Nat.le_of_ble_eq_true rfl) (Nat.le_of_ble_eq_true rfl) ?_
        rintro v w1 ⟨x1, rfl, p1, p2⟩
        obtain ⟨e1, hw⟩ := p1 _ h1
        rw [hw, e1]
        show Vv _ _ _ _ _ _ _ _ _ _ _ _ _ _ _ [.int x] (0, 0, g)
        refine v_istore (lb := [some (.ref 1003), some (.int (nI (na r))), some (.int (nI f.2.1.length)), some (.int (nI (f.2.1.getD 0 []).length)), some (.int x), none, none]) X (dk D_Rf_giveSome 9 rfl) (by decide) rfl ?_
        refine v_iload_n X (dk D_Rf_giveSome 10 rfl) rfl ?_
        refine v_iconst (v := 2) X (dk D_Rf_giveSome 11 rfl) (by decide) ?_
        refine v_icmp_le (tgt := 29) X (dk D_Rf_giveSome 12 rfl) (by decide) (fun c17 => absurd c17 (fun z => absurd ((nI_leI (b := 2) (by omega) (by decide)).mp z) (by omega))) (fun _ => ?_)
        refine v_aload_n X (dk D_Rf_giveSome 13 rfl) rfl ?_
        refine v_iload_n X (dk D_Rf_giveSome 14 rfl) rfl ?_
        refine v_iconst (v := nI (2 + 1)) X (dk D_Rf_giveSome 15 rfl) (by decide) ?_
        refine v_invV (As := [.int (nI (na r)), .int (nI (2 + 1))]) (st := []) X (r_number l q (i := 2) hS hC (by decide)) (dk D_Rf_giveSome 16 rfl) G_Rf_299 K_Rf_number V_Rf_number rfl rfl (hS.lt (by decide)) rfl rfl (Nat.le_of_ble_eq_true rfl) (Nat.le_of_ble_eq_true rfl) (Nat.le_of_ble_eq_true rfl) (Nat.le_of_ble_eq_true rfl) (Nat.le_of_ble_eq_true rfl) ?_
        rintro v w2 ⟨x2, rfl, p1, p2⟩
        obtain ⟨e1, hw⟩ := p1 _ h2
        rw [hw, e1]
        show Vv _ _ _ _ _ _ _ _ _ _ _ _ _ _ _ [.int y] (0, 0, g)
        refine v_goto (tgt := 30) X (dk D_Rf_giveSome 17 rfl) (by decide) ?_
        refine v_istore (lb := [some (.ref 1003), some (.int (nI (na r))), some (.int (nI f.2.1.length)), some (.int (nI (f.2.1.getD 0 []).length)), some (.int x), some (.int y), none]) X (dk D_Rf_giveSome 19 rfl) (by decide) rfl ?_
        refine v_iload X (dk D_Rf_giveSome 20 rfl) rfl ?_
        refine v_istore (lb := [some (.ref 1003), some (.int (nI (na r))), some (.int (nI f.2.1.length)), some (.int (nI (f.2.1.getD 0 []).length)), some (.int x), some (.int y), some (.int x)]) X (dk D_Rf_giveSome 21 rfl) (by decide) rfl ?_
        exact both x y y h1 hct (fun _ => rfl)
    · have hct : ctX f.2.1 = ctY (f.2.1.getD 0 []) (some x) (some 16384) := by rw [ctX, h1, if_neg c]
      refine v_aload_n X (dk D_Rf_giveSome 0 rfl) rfl ?_
      refine v_iload_n X (dk D_Rf_giveSome 1 rfl) rfl ?_
      refine v_iconst (v := nI (0 + 1)) X (dk D_Rf_giveSome 2 rfl) (by decide) ?_
      refine v_invV (As := [.int (nI (na r)), .int (nI (0 + 1))]) (st := []) X (r_argumentSize l q (i := 0) hS hC (by omega)) (dk D_Rf_giveSome 3 rfl) G_Rf_272 K_Rf_argumentSize V_Rf_argumentSize rfl rfl (hS.lt (by decide)) rfl rfl (Nat.le_of_ble_eq_true rfl) (Nat.le_of_ble_eq_true rfl) (Nat.le_of_ble_eq_true rfl) (Nat.le_of_ble_eq_true rfl) (Nat.le_of_ble_eq_true rfl) ?_
      rintro v ws ⟨rfl, hws⟩
      rw [hws]
      show Vv _ _ _ _ _ _ _ _ _ _ _ _ _ _ _ [.int (nI (f.2.1.getD 0 []).length)] (0, 0, g)
      refine v_istore_n (lb := [some (.ref 1003), some (.int (nI (na r))), some (.int (nI f.2.1.length)), some (.int (nI (f.2.1.getD 0 []).length)), none, none, none]) X (dk D_Rf_giveSome 4 rfl) (by decide) rfl ?_
      refine v_aload_n X (dk D_Rf_giveSome 5 rfl) rfl ?_
      refine v_iload_n X (dk D_Rf_giveSome 6 rfl) rfl ?_
      refine v_iconst (v := nI (1 + 1)) X (dk D_Rf_giveSome 7 rfl) (by decide) ?_
      refine v_invV (As := [.int (nI (na r)), .int (nI (1 + 1))]) (st := []) X (r_number l q (i := 1) hS hC (by decide)) (dk D_Rf_giveSome 8 rfl) G_Rf_299 K_Rf_number V_Rf_number rfl rfl (hS.lt (by decide)) rfl rfl (Nat.le_of_ble_eq_true rfl) (Nat.le_of_ble_eq_true rfl) (Nat.le_of_ble_eq_true rfl) (Nat.le_of_ble_eq_true rfl) (Nat.le_of_ble_eq_true rfl) ?_
      rintro v w1 ⟨x1, rfl, p1, p2⟩
      obtain ⟨e1, hw⟩ := p1 _ h1
      rw [hw, e1]
      show Vv _ _ _ _ _ _ _ _ _ _ _ _ _ _ _ [.int x] (0, 0, g)
      refine v_istore (lb := [some (.ref 1003), some (.int (nI (na r))), some (.int (nI f.2.1.length)), some (.int (nI (f.2.1.getD 0 []).length)), some (.int x), none, none]) X (dk D_Rf_giveSome 9 rfl) (by decide) rfl ?_
      refine v_iload_n X (dk D_Rf_giveSome 10 rfl) rfl ?_
      refine v_iconst (v := 2) X (dk D_Rf_giveSome 11 rfl) (by decide) ?_
      refine v_icmp_le (tgt := 29) X (dk D_Rf_giveSome 12 rfl) (by decide) (fun _ => ?_) (fun c17 => absurd (nI_le (b := 2) (by omega) (by decide)) c17)
      refine v_iload_n X (dk D_Rf_giveSome 18 rfl) rfl ?_
      refine v_istore (lb := [some (.ref 1003), some (.int (nI (na r))), some (.int (nI f.2.1.length)), some (.int (nI (f.2.1.getD 0 []).length)), some (.int x), some (.int (nI (f.2.1.getD 0 []).length)), none]) X (dk D_Rf_giveSome 19 rfl) (by decide) rfl ?_
      refine v_iload X (dk D_Rf_giveSome 20 rfl) rfl ?_
      refine v_istore (lb := [some (.ref 1003), some (.int (nI (na r))), some (.int (nI f.2.1.length)), some (.int (nI (f.2.1.getD 0 []).length)), some (.int x), some (.int (nI (f.2.1.getD 0 []).length)), some (.int x)]) X (dk D_Rf_giveSome 21 rfl) (by decide) rfl ?_
      exact both x (nI (f.2.1.getD 0 []).length) 16384 h1 hct (fun x9 => by rw [nI_clamp (by omega), List.take_of_length_le (by rw [List.length_drop]; omega), List.take_of_length_le (by rw [List.length_drop]; show (f.2.1.getD 0 []).length - x9 ≤ 16384; omega)])
set_option maxHeartbeats 4000000 in
set_option maxRecDepth 100000 in
theorem r_giveIfRight (l : Launch) (q : ev_T) {fu : Nat} {x : Int32} {I : Ip} {F : List Int32} {g : mu_T} (hS : Shp g) (hI : RQ g fu I) (hE : GE g I F) (he : gI g 1003 2 = 0) : Ctr l q M_Rf_giveIfRight 4 [.ref 1003, .long x.toInt64] (0, 0, g) (fun v w => v = none ∧ rs g w.2.2 [2, 3, 20] [1010] ∧ GE w.2.2 I (F ++ decB x)) := by

  refine Ctr.mk (lb := [some (.ref 1003), some (.long x.toInt64), none]) (by decide +kernel) (Nat.le_of_ble_eq_true rfl) rfl rfl ?_
  intro pp ee ss mm aa bb mt cd X hrt hlk hnm
  refine v_aload_n X (dk D_Rf_giveIfRight 0 rfl) rfl ?_
  refine v_getI X (dk D_Rf_giveIfRight 1 rfl) F_Rf_72 rfl rfl (hS.lt (by decide)) ?_
  refine v_if_ne (tgt := 12) X (dk D_Rf_giveIfRight 2 rfl) (by decide) (fun c4 => absurd he c4) (fun _ => ?_)
  refine v_aload_n X (dk D_Rf_giveIfRight 3 rfl) rfl ?_
  refine v_lload_n X (dk D_Rf_giveIfRight 4 rfl) rfl ?_
  refine v_invV (As := [.long x.toInt64]) (st := []) X (r_giveNumber l q (x := x) hS hI hE) (dk D_Rf_giveIfRight 5 rfl) G_Rf_278 K_Rf_giveNumber V_Rf_giveNumber rfl rfl (hS.lt (by decide)) rfl rfl (Nat.le_of_ble_eq_true rfl) (Nat.le_of_ble_eq_true rfl) (Nat.le_of_ble_eq_true rfl) (Nat.le_of_ble_eq_true rfl) (Nat.le_of_ble_eq_true rfl) ?_
  rintro v w1 ⟨rfl, a1, a2⟩
  show Vv _ _ _ _ _ _ _ _ _ _ _ _ _ _ _ [] (0, 0, w1.2.2)
  exact v_vret X hlk hrt (dk D_Rf_giveIfRight 6 rfl) ⟨rfl, a1, a2⟩
set_option maxHeartbeats 4000000 in
set_option maxRecDepth 100000 in
theorem r_giveIfRightE (l : Launch) (q : ev_T) {x : Int64} {g : mu_T} (hS : Shp g) (he : ¬ gI g 1003 2 = 0) : Ctr l q M_Rf_giveIfRight 4 [.ref 1003, .long x] (0, 0, g) (fun v w => v = none ∧ w.2.2 = g) := by

  refine Ctr.mk (lb := [some (.ref 1003), some (.long x), none]) (by decide +kernel) (Nat.le_of_ble_eq_true rfl) rfl rfl ?_
  intro pp ee ss mm aa bb mt cd X hrt hlk hnm
  refine v_aload_n X (dk D_Rf_giveIfRight 0 rfl) rfl ?_
  refine v_getI X (dk D_Rf_giveIfRight 1 rfl) F_Rf_72 rfl rfl (hS.lt (by decide)) ?_
  refine v_if_ne (tgt := 12) X (dk D_Rf_giveIfRight 2 rfl) (by decide) (fun _ => ?_) (fun c4 => absurd c4 he)
  exact v_vret X hlk hrt (dk D_Rf_giveIfRight 6 rfl) ⟨rfl, rfl⟩
