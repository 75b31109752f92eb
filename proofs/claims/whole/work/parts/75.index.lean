/-! index -/
theorem BD_mono {p : List Int32} {fb : Nat → Nat} {m n : Nat} (h : BD p fb m) (hn : n ≤ m) : BD p fb n := fun k h1 h2 => h k h1 (by omega)
theorem BD_1 {p : List Int32} : BD p (fun _ => 0) 1 := fun k h1 h2 => ⟨(show 0 < k by omega), sf_0, fun s hs _ => by show s ≤ 0; omega⟩
theorem sl_snoc {P : List Int32} {k : Nat} (h : k < P.length) : P.take (k + 1) = P.take k ++ [P.getD k 0] := by
  rw [List.take_succ, List.getElem?_eq_getElem h, List.getD_eq_getElem?_getD, List.getElem?_eq_getElem h]; rfl
theorem sl_snoc1 {P : List Int32} {k : Nat} (h : k < P.length) (h1 : 1 ≤ k) : (P.take (k + 1)).drop 1 = (P.take k).drop 1 ++ [P.getD k 0] := by
  rw [sl_snoc h, List.drop_append_of_le_length (by rw [List.length_take]; omega)]
set_option maxHeartbeats 4000000 in
set_option maxRecDepth 100000 in
theorem k_extend (l : Launch) (q : ev_T) {L0 : Nat} {y : Int32} {u : List Int32} {fb : Nat → Nat} {so m : Nat} {xs : List Int32} {ov : Bool} {g : mu_T} (hS : Shp g) (hY : RB g 18 19 16384 xs ov) (hxb : ∀ x ∈ xs, isByte x) (hss : so + m ≤ xs.length) (hm : m ≤ 8192) (hL : L0 < m) (hKF : ∀ j, j < L0 → gI g 1002 j = nI (fb j)) (hBD : BD ((xs.drop so).take m) fb L0) (h1 : sf ((xs.drop so).take m) u L0) (h2 : ∀ s, sf ((xs.drop so).take m) u s → s ≤ L0) (hy : isByte y) : Ctr l q M_Mi_extend 1 [.ref 0, .int (nI so), .int (nI L0), .int (y &&& 255)] (0, 0, g) (fun v w => w.2.2 = g ∧ ∃ L1, v = some (.int (nI L1)) ∧ L1 ≤ m ∧ sf ((xs.drop so).take m) (u ++ [y]) L1 ∧ ∀ s, sf ((xs.drop so).take m) (u ++ [y]) s → s ≤ L1) := by
  have hyn := hY.2.1
  have hpl := sl_len (xs := xs) hss
  have hpb : ∀ j, j < m → isByte (((xs.drop so).take m).getD j 0) := fun j hj => by rw [sl_get hj]; exact hxb _ (getD_mem (by omega))
  refine Ctr.mk (lb := [some (.ref 0), some (.int (nI so)), some (.int (nI L0)), some (.int (y &&& 255)), none]) (by decide +kernel) (Nat.le_of_ble_eq_true rfl) rfl rfl ?_
  intro pp ee ss mm aa bb mt cd X hrt hlk hnm
  have tail : ∀ L : Nat, L < m → sf ((xs.drop so).take m) u L → (∀ s, sf ((xs.drop so).take m) u s → s < ((xs.drop so).take m).length → ((xs.drop so).take m).getD s 0 = y → s ≤ L) → (L = 0 ∨ ((xs.drop so).take m).getD L 0 = y) → Vv pp l ee (rmT 1 0 0) ss mm aa bb mt cd 5 q (MQ bb (Qw q (fun v w => w.2.2 = g ∧ ∃ L1, v = some (.int (nI L1)) ∧ L1 ≤ m ∧ sf ((xs.drop so).take m) (u ++ [y]) L1 ∧ ∀ s, sf ((xs.drop so).take m) (u ++ [y]) s → s ≤ L1)) aa ss 0 0 (fun a => q.1 ≤ a)) 57 [some (.ref 0), some (.int (nI so)), some (.int (nI L0)), some (.int (y &&& 255)), some (.int (nI L))] [] (0, 0, g) := by
    intro L hL h1 h2 hor
    refine v_aload_n X (dk D_Mi_extend 30 rfl) rfl ?_
    refine v_getF X (dk D_Mi_extend 31 rfl) F_Mi_37 rfl rfl (hS.lt (by decide)) (hS.2 0 4) ?_
    refine v_getF X (dk D_Mi_extend 32 rfl) F_Mi_219 rfl rfl (hS.lt (by decide)) (hS.2 17 0) ?_
    refine v_iload_n X (dk D_Mi_extend 33 rfl) rfl ?_
    refine v_iload X (dk D_Mi_extend 34 rfl) rfl ?_
    refine v_iadd X (dk D_Mi_extend 35 rfl) ?_
    rw [nI_add]
    refine v_invV (As := [.int (nI (so + L))]) (st := []) X (k_at l q hY) (dk D_Mi_extend 36 rfl) G_Mi_119 K_By_at V_By_at rfl rfl (hS.lt (by decide)) rfl rfl (Nat.le_of_ble_eq_true rfl) (Nat.le_of_ble_eq_true rfl) (Nat.le_of_ble_eq_true rfl) (Nat.le_of_ble_eq_true rfl) (Nat.le_of_ble_eq_true rfl) ?_
    rintro v ws ⟨rfl, hws⟩
    rw [hws, atL_nI (show so + L < xs.length by omega) (by omega), ← sl_get (n := m) (by omega)]
    show Vv _ _ _ _ _ _ _ _ _ _ _ _ _ _ _ [.int (((xs.drop so).take m).getD L 0 &&& 255)] (0, 0, g)
    refine v_iload_n X (dk D_Mi_extend 37 rfl) rfl ?_
    refine v_icmp_ne (tgt := 82) X (dk D_Mi_extend 38 rfl) (by decide) (fun c72 => ?_) (fun c72 => ?_)
    · refine v_iload X (dk D_Mi_extend 43 rfl) rfl ?_
      exact v_iret X hlk hrt (dk D_Mi_extend 44 rfl) (by have hne : ¬ ((xs.drop so).take m).getD L 0 = y := (fun z => c72 ((b255_eq (hpb L (by omega)) hy).mpr z)); have h0 : L = 0 := hor.elim id (fun z => absurd z hne); subst h0; obtain ⟨a, c⟩ := kmp_miss (b := y) h2 hne; exact ⟨rfl, 0, rfl, by omega, a, c⟩)
    · refine v_iload X (dk D_Mi_extend 39 rfl) rfl ?_
      refine v_iconst (v := 1) X (dk D_Mi_extend 40 rfl) (by decide) ?_
      refine v_iadd X (dk D_Mi_extend 41 rfl) ?_
      rw [nI_1]
      refine v_goto (tgt := 84) X (dk D_Mi_extend 42 rfl) (by decide) ?_
      exact v_iret X hlk hrt (dk D_Mi_extend 44 rfl) (by obtain ⟨a, c⟩ := kmp_hit h1 h2 (by rw [hpl]; exact hL) ((b255_eq (hpb L (by omega)) hy).mp c72); exact ⟨rfl, L + 1, rfl, by omega, a, c⟩)
  have loop : ∀ (d L : Nat), L ≤ d → L ≤ L0 → sf ((xs.drop so).take m) u L → (∀ s, sf ((xs.drop so).take m) u s → s < ((xs.drop so).take m).length → ((xs.drop so).take m).getD s 0 = y → s ≤ L) → Vv pp l ee (rmT 1 0 0) ss mm aa bb mt cd 5 q (MQ bb (Qw q (fun v w => w.2.2 = g ∧ ∃ L1, v = some (.int (nI L1)) ∧ L1 ≤ m ∧ sf ((xs.drop so).take m) (u ++ [y]) L1 ∧ ∀ s, sf ((xs.drop so).take m) (u ++ [y]) s → s ≤ L1)) aa ss 0 0 (fun a => q.1 ≤ a)) 3 [some (.ref 0), some (.int (nI so)), some (.int (nI L0)), some (.int (y &&& 255)), some (.int (nI L))] [] (0, 0, g) := by
    intro d
    induction d with
    | zero =>
      intro L hd hL h1 h2
      refine v_iload X (dk D_Mi_extend 2 rfl) rfl ?_
      refine v_if_le (tgt := 57) X (dk D_Mi_extend 3 rfl) (by decide) (fun _ => ?_) (fun c5 => absurd (by rw [show L = 0 by omega]; decide) c5)
      exact tail L (by omega) h1 h2 (Or.inl (by omega))
    | succ d ih =>
      intro L hd hL h1 h2
      by_cases hL0 : L = 0
      · refine v_iload X (dk D_Mi_extend 2 rfl) rfl ?_
        refine v_if_le (tgt := 57) X (dk D_Mi_extend 3 rfl) (by decide) (fun _ => ?_) (fun c5 => absurd (by rw [show L = 0 by omega]; decide) c5)
        exact tail L (by omega) h1 h2 (Or.inl (by omega))
      · refine v_iload X (dk D_Mi_extend 2 rfl) rfl ?_
        refine v_if_le (tgt := 57) X (dk D_Mi_extend 3 rfl) (by decide) (fun c5 => absurd c5 (nI_nle (by omega) (by omega))) (fun _ => ?_)
        refine v_iload X (dk D_Mi_extend 4 rfl) rfl ?_
        refine v_aload_n X (dk D_Mi_extend 5 rfl) rfl ?_
        refine v_getF X (dk D_Mi_extend 6 rfl) F_Mi_62 rfl rfl (hS.lt (by decide)) (hS.2 0 8) ?_
        refine v_alen (v := nI _) X (dk D_Mi_extend 7 rfl) rfl rfl (hS.lt (by decide)) rfl ?_
        refine v_icmp_gt (tgt := 57) X (dk D_Mi_extend 8 rfl) (by decide) (fun c15 => absurd c15 (nI_nlt (b := L) (a := 8192) (by omega) (by decide))) (fun _ => ?_)
        refine v_aload_n X (dk D_Mi_extend 9 rfl) rfl ?_
        refine v_getF X (dk D_Mi_extend 10 rfl) F_Mi_37 rfl rfl (hS.lt (by decide)) (hS.2 0 4) ?_
        refine v_getF X (dk D_Mi_extend 11 rfl) F_Mi_219 rfl rfl (hS.lt (by decide)) (hS.2 17 0) ?_
        refine v_iload_n X (dk D_Mi_extend 12 rfl) rfl ?_
        refine v_iload X (dk D_Mi_extend 13 rfl) rfl ?_
        refine v_iadd X (dk D_Mi_extend 14 rfl) ?_
        rw [nI_add]
        refine v_invV (As := [.int (nI (so + L))]) (st := []) X (k_at l q hY) (dk D_Mi_extend 15 rfl) G_Mi_119 K_By_at V_By_at rfl rfl (hS.lt (by decide)) rfl rfl (Nat.le_of_ble_eq_true rfl) (Nat.le_of_ble_eq_true rfl) (Nat.le_of_ble_eq_true rfl) (Nat.le_of_ble_eq_true rfl) (Nat.le_of_ble_eq_true rfl) ?_
        rintro v ws ⟨rfl, hws⟩
        rw [hws, atL_nI (show so + L < xs.length by omega) (by omega), ← sl_get (n := m) (by omega)]
        show Vv _ _ _ _ _ _ _ _ _ _ _ _ _ _ _ [.int (((xs.drop so).take m).getD L 0 &&& 255)] (0, 0, g)
        refine v_iload_n X (dk D_Mi_extend 16 rfl) rfl ?_
        refine v_icmp_eq (tgt := 57) X (dk D_Mi_extend 17 rfl) (by decide) (fun c33 => ?_) (fun c33 => ?_)
        · exact tail L (by omega) h1 h2 (Or.inr ((b255_eq (hpb L (by omega)) hy).mp c33))
        · obtain ⟨d1, d2, d3⟩ := kmp_down hBD (by omega) (show L ≤ L0 by omega) h1 h2 (fun z => c33 ((b255_eq (hpb L (by omega)) hy).mpr z))
          refine v_aload_n X (dk D_Mi_extend 18 rfl) rfl ?_
          refine v_getF X (dk D_Mi_extend 19 rfl) F_Mi_62 rfl rfl (hS.lt (by decide)) (hS.2 0 8) ?_
          refine v_iload X (dk D_Mi_extend 20 rfl) rfl ?_
          refine v_iconst (v := 1) X (dk D_Mi_extend 21 rfl) (by decide) ?_
          refine v_isub X (dk D_Mi_extend 22 rfl) ?_
          rw [show nI L - 1 = nI (L - 1) from pk_sub (b := 1) (by omega)]
          refine v_iald X (dk D_Mi_extend 23 rfl) rfl (hS.lt (by decide)) (vp_in_nI (show L - 1 < 8192 by omega) (by decide)) ?_
          rw [nI_clamp (by omega), hKF (L - 1) (by omega)]
          refine v_iload X (dk D_Mi_extend 24 rfl) rfl ?_
          refine v_iconst (v := 1) X (dk D_Mi_extend 25 rfl) (by decide) ?_
          refine v_isub X (dk D_Mi_extend 26 rfl) ?_
          rw [show nI L - 1 = nI (L - 1) from pk_sub (b := 1) (by omega)]
          refine v_min (z := nI (fb (L - 1))) X (dk D_Mi_extend 27 rfl) G_Mi_373 W_minS W_mathI W_minC (Nat.le_of_ble_eq_true rfl) (Nat.le_of_ble_eq_true rfl) (Nat.le_of_ble_eq_true rfl) (if_neg (nI_nlt (by omega) (by omega))) ?_
          refine v_istore (lb := [some (.ref 0), some (.int (nI so)), some (.int (nI L0)), some (.int (y &&& 255)), some (.int (nI (fb (L - 1))))]) X (dk D_Mi_extend 28 rfl) (by decide) rfl ?_
          refine v_goto (tgt := 3) X (dk D_Mi_extend 29 rfl) (by decide) ?_
          exact ih (fb (L - 1)) (by omega) (by omega) d2 d3
  refine v_iload_n X (dk D_Mi_extend 0 rfl) rfl ?_
  refine v_istore (lb := [some (.ref 0), some (.int (nI so)), some (.int (nI L0)), some (.int (y &&& 255)), some (.int (nI L0))]) X (dk D_Mi_extend 1 rfl) (by decide) rfl ?_
  exact loop L0 L0 (Nat.le_refl _) (Nat.le_refl _) h1 (fun s hs _ _ => h2 s hs)
set_option maxHeartbeats 4000000 in
set_option maxRecDepth 100000 in
theorem k_fillFallBack (l : Launch) (q : ev_T) {so m : Nat} {xs : List Int32} {ov : Bool} {g : mu_T} (hS : Shp g) (hY : RB g 18 19 16384 xs ov) (hxb : ∀ x ∈ xs, isByte x) (hss : so + m ≤ xs.length) (hm : m ≤ 8192) (hm1 : 1 ≤ m) : Ctr l q M_Mi_fillFallBack 2 [.ref 0, .int (nI so), .int (nI m)] (0, 0, g) (fun v w => v = none ∧ sm g w.2.2 [1002] ∧ ∃ fb : Nat → Nat, (∀ j, j < m → gI w.2.2 1002 j = nI (fb j)) ∧ BD ((xs.drop so).take m) fb m) := by
  have hyn := hY.2.1
  have hpl := sl_len (xs := xs) hss
  have hpb : ∀ j, j < m → isByte (((xs.drop so).take m).getD j 0) := fun j hj => by rw [sl_get hj]; exact hxb _ (getD_mem (by omega))
  refine Ctr.mk (lb := [some (.ref 0), some (.int (nI so)), some (.int (nI m)), none, none]) (by decide +kernel) (Nat.le_of_ble_eq_true rfl) rfl rfl ?_
  intro pp ee ss mm aa bb mt cd X hrt hlk hnm
  have loop : ∀ (d k L : Nat) (u : mu_T) (fb : Nat → Nat), k + d = m → 1 ≤ k → sm g u [1002] → (∀ j, j < k → gI u 1002 j = nI (fb j)) → BD ((xs.drop so).take m) fb k → sf ((xs.drop so).take m) ((((xs.drop so).take m).take k).drop 1) L → (∀ s, sf ((xs.drop so).take m) ((((xs.drop so).take m).take k).drop 1) s → s ≤ L) → Vv pp l ee (rmT 2 0 0) ss mm aa bb mt cd 5 q (MQ bb (Qw q (fun v w => v = none ∧ sm g w.2.2 [1002] ∧ ∃ fb : Nat → Nat, (∀ j, j < m → gI w.2.2 1002 j = nI (fb j)) ∧ BD ((xs.drop so).take m) fb m)) aa ss 0 0 (fun a => q.1 ≤ a)) 12 [some (.ref 0), some (.int (nI so)), some (.int (nI m)), some (.int (nI L)), some (.int (nI k))] [] (0, 0, u) := by
    intro d
    induction d with
    | zero =>
      intro k L u fb hkd hk1 zu hKF hBD h1 h2
      have hSu := hS.sm zu
      have hYu := hY.sm zu (by decide) (by decide)
      have hLk : L < k := by have := sf_len h1; rw [List.length_drop, List.length_take] at this; omega
      have hLm : L < m := by have := sf_len h1; rw [List.length_drop, List.length_take] at this; omega
      refine v_iload X (dk D_Mi_fillFallBack 9 rfl) rfl ?_
      refine v_iload_n X (dk D_Mi_fillFallBack 10 rfl) rfl ?_
      refine v_icmp_ge (tgt := 63) X (dk D_Mi_fillFallBack 11 rfl) (by decide) (fun _ => ?_) (fun c15 => absurd (nI_le (by omega) (by omega)) c15)
      exact v_vret X hlk hrt (dk D_Mi_fillFallBack 36 rfl) ⟨rfl, zu, fb, fun j hj => hKF j (by omega), BD_mono hBD (by omega)⟩
    | succ d ih =>
      intro k L u fb hkd hk1 zu hKF hBD h1 h2
      have hSu := hS.sm zu
      have hYu := hY.sm zu (by decide) (by decide)
      have hLk : L < k := by have := sf_len h1; rw [List.length_drop, List.length_take] at this; omega
      have hLm : L < m := by have := sf_len h1; rw [List.length_drop, List.length_take] at this; omega
      refine v_iload X (dk D_Mi_fillFallBack 9 rfl) rfl ?_
      refine v_iload_n X (dk D_Mi_fillFallBack 10 rfl) rfl ?_
      refine v_icmp_ge (tgt := 63) X (dk D_Mi_fillFallBack 11 rfl) (by decide) (fun c15 => absurd c15 (nI_ge (by omega) (by omega))) (fun _ => ?_)
      refine v_iload X (dk D_Mi_fillFallBack 12 rfl) rfl ?_
      refine v_aload_n X (dk D_Mi_fillFallBack 13 rfl) rfl ?_
      refine v_getF X (dk D_Mi_fillFallBack 14 rfl) F_Mi_62 rfl rfl (hSu.lt (by decide)) (hSu.2 0 8) ?_
      refine v_alen (v := nI _) X (dk D_Mi_fillFallBack 15 rfl) rfl rfl (hSu.lt (by decide)) rfl ?_
      refine v_icmp_ge (tgt := 63) X (dk D_Mi_fillFallBack 16 rfl) (by decide) (fun c25 => absurd c25 (nI_ge (b := 8192) (by omega) (by decide))) (fun _ => ?_)
      refine v_aload_n X (dk D_Mi_fillFallBack 17 rfl) rfl ?_
      refine v_iload_n X (dk D_Mi_fillFallBack 18 rfl) rfl ?_
      refine v_iload_n X (dk D_Mi_fillFallBack 19 rfl) rfl ?_
      refine v_aload_n X (dk D_Mi_fillFallBack 20 rfl) rfl ?_
      refine v_getF X (dk D_Mi_fillFallBack 21 rfl) F_Mi_37 rfl rfl (hSu.lt (by decide)) (hSu.2 0 4) ?_
      refine v_getF X (dk D_Mi_fillFallBack 22 rfl) F_Mi_219 rfl rfl (hSu.lt (by decide)) (hSu.2 17 0) ?_
      refine v_iload_n X (dk D_Mi_fillFallBack 23 rfl) rfl ?_
      refine v_iload X (dk D_Mi_fillFallBack 24 rfl) rfl ?_
      refine v_iadd X (dk D_Mi_fillFallBack 25 rfl) ?_
      rw [nI_add]
      refine v_invV (As := [.int (nI (so + k))]) (st := [.int (nI L), .int (nI so), .ref 0]) X (k_at l q hYu) (dk D_Mi_fillFallBack 26 rfl) G_Mi_119 K_By_at V_By_at rfl rfl (hSu.lt (by decide)) rfl rfl (Nat.le_of_ble_eq_true rfl) (Nat.le_of_ble_eq_true rfl) (Nat.le_of_ble_eq_true rfl) (Nat.le_of_ble_eq_true rfl) (Nat.le_of_ble_eq_true rfl) ?_
      rintro v ws ⟨rfl, hws⟩
      rw [hws, atL_nI (show so + k < xs.length by omega) (by omega), ← sl_get (n := m) (by omega)]
      show Vv _ _ _ _ _ _ _ _ _ _ _ _ _ _ _ [.int ((((xs.drop so).take m).getD k 0) &&& 255), .int (nI L), .int (nI so), .ref 0] (0, 0, u)
      refine v_invV (As := [.int (nI so), .int (nI L), .int ((((xs.drop so).take m).getD k 0) &&& 255)]) (st := []) X (k_extend l q (L0 := L) (y := (((xs.drop so).take m).getD k 0)) (u := (((xs.drop so).take m).take k).drop 1) (fb := fb) hSu hYu hxb hss hm hLm (fun j hj => hKF j (by omega)) (BD_mono hBD (by omega)) h1 h2 (hpb k (by omega))) (dk D_Mi_fillFallBack 27 rfl) G_Mi_369 K_Mi_extend V_Mi_extend rfl rfl (hSu.lt (by decide)) rfl rfl (Nat.le_of_ble_eq_true rfl) (Nat.le_of_ble_eq_true rfl) (Nat.le_of_ble_eq_true rfl) (Nat.le_of_ble_eq_true rfl) (Nat.le_of_ble_eq_true rfl) ?_
      rintro v ws2 ⟨hws2, L1, rfl, e1, e2, e3⟩
      rw [hws2]
      rw [← sl_snoc1 (by omega) (by omega)] at e2 e3
      show Vv _ _ _ _ _ _ _ _ _ _ _ _ _ _ _ [.int (nI L1)] (0, 0, u)
      refine v_istore_n (lb := [some (.ref 0), some (.int (nI so)), some (.int (nI m)), some (.int (nI L1)), some (.int (nI k))]) X (dk D_Mi_fillFallBack 28 rfl) (by decide) rfl ?_
      refine v_aload_n X (dk D_Mi_fillFallBack 29 rfl) rfl ?_
      refine v_getF X (dk D_Mi_fillFallBack 30 rfl) F_Mi_62 rfl rfl (hSu.lt (by decide)) (hSu.2 0 8) ?_
      refine v_iload X (dk D_Mi_fillFallBack 31 rfl) rfl ?_
      refine v_iload_n X (dk D_Mi_fillFallBack 32 rfl) rfl ?_
      refine v_iast X (dk D_Mi_fillFallBack 33 rfl) rfl (hSu.lt (by decide)) (vp_in_nI (show k < 8192 by omega) (by decide)) ?_
      rw [nI_clamp (by omega)]
      refine v_iinc (v := nI (k + 1)) (lb := [some (.ref 0), some (.int (nI so)), some (.int (nI m)), some (.int (nI L1)), some (.int (nI (k + 1)))]) X (dk D_Mi_fillFallBack 34 rfl) rfl (nI_1 k) (by decide) rfl ?_
      refine v_goto (tgt := 12) X (dk D_Mi_fillFallBack 35 rfl) (by decide) ?_
      exact ih (k + 1) L1 _ (va_up fb k L1) (by omega) (by omega) (zu.xI (by decide)) (fun j hj => by by_cases e : j = k; rw [e, up_eq, gI_eq]; rw [up_ne e, gI_nk e]; exact hKF j (by omega)) (BD_next hBD (by omega) (by omega) e2 e3) e2 e3
  refine v_aload_n X (dk D_Mi_fillFallBack 0 rfl) rfl ?_
  refine v_getF X (dk D_Mi_fillFallBack 1 rfl) F_Mi_62 rfl rfl (hS.lt (by decide)) (hS.2 0 8) ?_
  refine v_iconst (v := 0) X (dk D_Mi_fillFallBack 2 rfl) (by decide) ?_
  refine v_iconst (v := nI 0) X (dk D_Mi_fillFallBack 3 rfl) (by decide) ?_
  refine v_iast X (dk D_Mi_fillFallBack 4 rfl) rfl (hS.lt (by decide)) (show vp_in 0 8192 from pk_in 0 8192 (by decide)) ?_
  refine v_iconst (v := nI 0) X (dk D_Mi_fillFallBack 5 rfl) (by decide) ?_
  refine v_istore_n (lb := [some (.ref 0), some (.int (nI so)), some (.int (nI m)), some (.int (nI 0)), none]) X (dk D_Mi_fillFallBack 6 rfl) (by decide) rfl ?_
  refine v_iconst (v := nI 1) X (dk D_Mi_fillFallBack 7 rfl) (by decide) ?_
  refine v_istore (lb := [some (.ref 0), some (.int (nI so)), some (.int (nI m)), some (.int (nI 0)), some (.int (nI 1))]) X (dk D_Mi_fillFallBack 8 rfl) (by decide) rfl ?_
  exact loop (m - 1) 1 0 _ (fun _ => 0) (by omega) (by decide) ((sm.rf g _).xI (by decide)) (fun j hj => by rw [show j = 0 by omega]; exact gI_eq _ _ _ _) BD_1 sf_0 (fun s hs => by have := sf_len hs; rw [List.length_drop, List.length_take] at this; omega)
set_option maxHeartbeats 4000000 in
set_option maxRecDepth 100000 in
theorem k_findPlace (l : Launch) (q : ev_T) {st n so m : Nat} {xs : List Int32} {ov : Bool} {g : mu_T} (hS : Shp g) (hY : RB g 18 19 16384 xs ov) (hxb : ∀ x ∈ xs, isByte x) (hss : so + m ≤ xs.length) (hst : st + n ≤ xs.length) (hnm : n + m ≤ 16384) : Ctr l q M_Mi_findPlace 3 [.ref 0, .int (nI st), .int (nI n), .int (nI so), .int (nI m)] (0, 0, g) (fun v w => v = some (.int (plc ((xs.drop st).take n) ((xs.drop so).take m))) ∧ sm g w.2.2 [1002]) := by
  have hyn := hY.2.1
  have hpl := sl_len (xs := xs) hss
  have htl := sl_len (xs := xs) hst
  refine Ctr.mk (lb := [some (.ref 0), some (.int (nI st)), some (.int (nI n)), some (.int (nI so)), some (.int (nI m)), none, none]) (by decide +kernel) (Nat.le_of_ble_eq_true rfl) rfl rfl ?_
  intro pp ee ss mm aa bb mt cd X hrt hlk hnm
  have loop : 1 ≤ m → m ≤ 8192 → ∀ (u : mu_T) (fb : Nat → Nat), sm g u [1002] → (∀ j, j < m → gI u 1002 j = nI (fb j)) → BD ((xs.drop so).take m) fb m → ∀ (d k L : Nat), k + d = n → sf ((xs.drop so).take m) (((xs.drop st).take n).take k) L → (∀ s, sf ((xs.drop so).take m) (((xs.drop st).take n).take k) s → s ≤ L) → L < m → (∀ j, j ≤ k → ¬ sf ((xs.drop so).take m) (((xs.drop st).take n).take j) ((xs.drop so).take m).length) → Vv pp l ee (rmT 3 0 0) ss mm aa bb mt cd 7 q (MQ bb (Qw q (fun v w => v = some (.int (plc ((xs.drop st).take n) ((xs.drop so).take m))) ∧ sm g w.2.2 [1002])) aa ss 0 0 (fun a => q.1 ≤ a)) 38 [some (.ref 0), some (.int (nI st)), some (.int (nI n)), some (.int (nI so)), some (.int (nI m)), some (.int (nI L)), some (.int (nI k))] [] (0, 0, u) := by
    intro hm1 hm u fb zu hKF hBD d
    have hSu := hS.sm zu
    have hYu := hY.sm zu (by decide) (by decide)
    induction d with
    | zero =>
      intro k L hkd h1 h2 hLm hno
      refine v_iload X (dk D_Mi_findPlace 22 rfl) rfl ?_
      refine v_iload_n X (dk D_Mi_findPlace 23 rfl) rfl ?_
      refine v_icmp_ge (tgt := 88) X (dk D_Mi_findPlace 24 rfl) (by decide) (fun _ => ?_) (fun c41 => absurd (nI_le (by omega) (by omega)) c41)
      refine v_iconst (v := -1) X (dk D_Mi_findPlace 48 rfl) (by decide) ?_
      exact v_iret X hlk hrt (dk D_Mi_findPlace 49 rfl) ⟨by rw [plc_none (fun i hi h => hno (i + m) (by rw [hpl, htl] at hi; omega) ((sf_all (by omega)).mpr ⟨i, by rw [hpl], h⟩))], zu⟩
    | succ d ih =>
      intro k L hkd h1 h2 hLm hno
      refine v_iload X (dk D_Mi_findPlace 22 rfl) rfl ?_
      refine v_iload_n X (dk D_Mi_findPlace 23 rfl) rfl ?_
      refine v_icmp_ge (tgt := 88) X (dk D_Mi_findPlace 24 rfl) (by decide) (fun c41 => absurd c41 (nI_ge (by omega) (by omega))) (fun _ => ?_)
      refine v_aload_n X (dk D_Mi_findPlace 25 rfl) rfl ?_
      refine v_iload_n X (dk D_Mi_findPlace 26 rfl) rfl ?_
      refine v_iload X (dk D_Mi_findPlace 27 rfl) rfl ?_
      refine v_aload_n X (dk D_Mi_findPlace 28 rfl) rfl ?_
      refine v_getF X (dk D_Mi_findPlace 29 rfl) F_Mi_37 rfl rfl (hSu.lt (by decide)) (hSu.2 0 4) ?_
      refine v_getF X (dk D_Mi_findPlace 30 rfl) F_Mi_219 rfl rfl (hSu.lt (by decide)) (hSu.2 17 0) ?_
      refine v_iload_n X (dk D_Mi_findPlace 31 rfl) rfl ?_
      refine v_iload X (dk D_Mi_findPlace 32 rfl) rfl ?_
      refine v_iadd X (dk D_Mi_findPlace 33 rfl) ?_
      rw [nI_add]
      refine v_invV (As := [.int (nI (st + k))]) (st := [.int (nI L), .int (nI so), .ref 0]) X (k_at l q hYu) (dk D_Mi_findPlace 34 rfl) G_Mi_119 K_By_at V_By_at rfl rfl (hSu.lt (by decide)) rfl rfl (Nat.le_of_ble_eq_true rfl) (Nat.le_of_ble_eq_true rfl) (Nat.le_of_ble_eq_true rfl) (Nat.le_of_ble_eq_true rfl) (Nat.le_of_ble_eq_true rfl) ?_
      rintro v ws ⟨rfl, hws⟩
      rw [hws, atL_nI (show st + k < xs.length by omega) (by omega), ← sl_get (n := n) (by omega)]
      show Vv _ _ _ _ _ _ _ _ _ _ _ _ _ _ _ [.int ((((xs.drop st).take n).getD k 0) &&& 255), .int (nI L), .int (nI so), .ref 0] (0, 0, u)
      refine v_invV (As := [.int (nI so), .int (nI L), .int ((((xs.drop st).take n).getD k 0) &&& 255)]) (st := []) X (k_extend l q (L0 := L) (y := (((xs.drop st).take n).getD k 0)) (u := ((xs.drop st).take n).take k) (fb := fb) hSu hYu hxb hss hm hLm (fun j hj => hKF j (by omega)) (BD_mono hBD (by omega)) h1 h2 (by rw [sl_get (by omega)]; exact hxb _ (getD_mem (by omega)))) (dk D_Mi_findPlace 35 rfl) G_Mi_369 K_Mi_extend V_Mi_extend rfl rfl (hSu.lt (by decide)) rfl rfl (Nat.le_of_ble_eq_true rfl) (Nat.le_of_ble_eq_true rfl) (Nat.le_of_ble_eq_true rfl) (Nat.le_of_ble_eq_true rfl) (Nat.le_of_ble_eq_true rfl) ?_
      rintro v ws2 ⟨hws2, L1, rfl, e1, e2, e3⟩
      rw [hws2]
      rw [← sl_snoc (by omega)] at e2 e3
      show Vv _ _ _ _ _ _ _ _ _ _ _ _ _ _ _ [.int (nI L1)] (0, 0, u)
      refine v_istore (lb := [some (.ref 0), some (.int (nI st)), some (.int (nI n)), some (.int (nI so)), some (.int (nI m)), some (.int (nI L1)), some (.int (nI k))]) X (dk D_Mi_findPlace 36 rfl) (by decide) rfl ?_
      refine v_iload X (dk D_Mi_findPlace 37 rfl) rfl ?_
      refine v_iload X (dk D_Mi_findPlace 38 rfl) rfl ?_
      refine v_icmp_ne (tgt := 82) X (dk D_Mi_findPlace 39 rfl) (by decide) (fun c71 => ?_) (fun c71 => ?_)
      · refine v_iinc (v := nI (k + 1)) (lb := [some (.ref 0), some (.int (nI st)), some (.int (nI n)), some (.int (nI so)), some (.int (nI m)), some (.int (nI L1)), some (.int (nI (k + 1)))]) X (dk D_Mi_findPlace 46 rfl) rfl (nI_1 k) (by decide) rfl ?_
        refine v_goto (tgt := 38) X (dk D_Mi_findPlace 47 rfl) (by decide) ?_
        exact ih (k + 1) L1 (by omega) e2 e3 (by have : L1 ≠ m := (fun z => c71 (congrArg nI z)); omega) (fun j hj => by by_cases e : j = k + 1; rw [e]; exact fun z => absurd (e3 _ z) (by rw [hpl]; have : L1 ≠ m := (fun z => c71 (congrArg nI z)); omega); exact hno j (by omega))
      · refine v_iload X (dk D_Mi_findPlace 40 rfl) rfl ?_
        refine v_iconst (v := 1) X (dk D_Mi_findPlace 41 rfl) (by decide) ?_
        refine v_iadd X (dk D_Mi_findPlace 42 rfl) ?_
        refine v_iload X (dk D_Mi_findPlace 43 rfl) rfl ?_
        refine v_isub X (dk D_Mi_findPlace 44 rfl) ?_
        exact v_iret X hlk hrt (dk D_Mi_findPlace 45 rfl) (by have hLe : L1 = m := (nI_eq (by omega) (by omega)).mp c71; rw [hLe] at e2; have hx := (sf_all (t := ((xs.drop st).take n)) (p := ((xs.drop so).take m)) (k := k + 1) (by omega)).mp (by rw [hpl]; exact e2); obtain ⟨i, hi1, hi2⟩ := hx; rw [hpl] at hi1; exact ⟨by rw [plc_some (i := i) (by omega) hi2 (fun j hj z => hno (j + m) (by omega) ((sf_all (by omega)).mpr ⟨j, by rw [hpl], z⟩)), nI_1, pk_sub (by omega), show k + 1 - m = i by omega], zu⟩)
  refine v_iload X (dk D_Mi_findPlace 0 rfl) rfl ?_
  refine v_if_ne (tgt := 7) X (dk D_Mi_findPlace 1 rfl) (by decide) (fun c2 => ?_) (fun c2 => ?_)
  · have hm0 : 1 ≤ m := Decidable.byContradiction (fun z => c2 (by rw [show m = 0 by omega]; rfl))
    refine v_iload X (dk D_Mi_findPlace 4 rfl) rfl ?_
    refine v_iload_n X (dk D_Mi_findPlace 5 rfl) rfl ?_
    refine v_icmp_gt (tgt := 23) X (dk D_Mi_findPlace 6 rfl) (by decide) (fun c10 => ?_) (fun c10 => ?_)
    · refine v_iconst (v := -1) X (dk D_Mi_findPlace 12 rfl) (by decide) ?_
      exact v_iret X hlk hrt (dk D_Mi_findPlace 13 rfl) ⟨by rw [plc_none (fun i hi _ => by rw [hpl, htl] at hi; have := (nI_ltI (by omega) (by omega)).mp c10; omega)], sm.rf _ _⟩
    · have hmn : m ≤ n := Decidable.byContradiction (fun z => c10 (nI_lt (by omega) (by omega)))
      refine v_iload X (dk D_Mi_findPlace 7 rfl) rfl ?_
      refine v_aload_n X (dk D_Mi_findPlace 8 rfl) rfl ?_
      refine v_getF X (dk D_Mi_findPlace 9 rfl) F_Mi_62 rfl rfl (hS.lt (by decide)) (hS.2 0 8) ?_
      refine v_alen (v := nI _) X (dk D_Mi_findPlace 10 rfl) rfl rfl (hS.lt (by decide)) rfl ?_
      refine v_icmp_le (tgt := 25) X (dk D_Mi_findPlace 11 rfl) (by decide) (fun c20 => ?_) (fun c20 => ?_)
      · refine v_aload_n X (dk D_Mi_findPlace 14 rfl) rfl ?_
        refine v_iload_n X (dk D_Mi_findPlace 15 rfl) rfl ?_
        refine v_iload X (dk D_Mi_findPlace 16 rfl) rfl ?_
        refine v_invV (As := [.int (nI so), .int (nI m)]) (st := []) X (k_fillFallBack l q hS hY hxb hss (by omega) (by omega)) (dk D_Mi_findPlace 17 rfl) G_Mi_365 K_Mi_fillFallBack V_Mi_fillFallBack rfl rfl (hS.lt (by decide)) rfl rfl (Nat.le_of_ble_eq_true rfl) (Nat.le_of_ble_eq_true rfl) (Nat.le_of_ble_eq_true rfl) (Nat.le_of_ble_eq_true rfl) (Nat.le_of_ble_eq_true rfl) ?_
        rintro v w ⟨rfl, y1, fb, y2, y3⟩
        show Vv _ _ _ _ _ _ _ _ _ _ _ _ _ _ _ [] (0, 0, w.2.2)
        refine v_iconst (v := nI 0) X (dk D_Mi_findPlace 18 rfl) (by decide) ?_
        refine v_istore (lb := [some (.ref 0), some (.int (nI st)), some (.int (nI n)), some (.int (nI so)), some (.int (nI m)), some (.int (nI 0)), none]) X (dk D_Mi_findPlace 19 rfl) (by decide) rfl ?_
        refine v_iconst (v := nI 0) X (dk D_Mi_findPlace 20 rfl) (by decide) ?_
        refine v_istore (lb := [some (.ref 0), some (.int (nI st)), some (.int (nI n)), some (.int (nI so)), some (.int (nI m)), some (.int (nI 0)), some (.int (nI 0))]) X (dk D_Mi_findPlace 21 rfl) (by decide) rfl ?_
        exact loop (by omega) (by omega) w.2.2 fb y1 y2 y3 n 0 0 (by omega) sf_0 (fun s hs => by have := sf_len hs; rw [List.take_zero, List.length_nil] at this; omega) (by omega) (fun j hj z => by have := sf_len z; rw [hpl, List.length_take] at this; omega)
      · refine v_iconst (v := -1) X (dk D_Mi_findPlace 12 rfl) (by decide) ?_
        exact v_iret X hlk hrt (dk D_Mi_findPlace 13 rfl) (by exfalso; have h1 : ¬ n < m := fun z => c10 (nI_lt z (by omega)); exact c20 (nI_le (b := 8192) (by omega) (by decide)))
  · have hm0 : m = 0 := (nI_eq (b := 0) (by omega) (by decide)).mp c2
    refine v_iconst (v := 0) X (dk D_Mi_findPlace 2 rfl) (by decide) ?_
    exact v_iret X hlk hrt (dk D_Mi_findPlace 3 rfl) ⟨by rw [plc_some (i := 0) (by rw [hpl]; omega) (by rw [hpl, hm0, List.take_zero, List.take_zero]) (fun j hj => by omega)]; rfl, sm.rf _ _⟩
