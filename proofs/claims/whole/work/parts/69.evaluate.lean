/-! Expression: evaluate -/
def XR : List Nat := [997, 1000, 1001, 5, 6]
theorem XS_XR : ∀ a ∈ XS, a ∈ XR := by decide
theorem ev_er {g w : mu_T} {F U : List Int32} {c : Int32} (h : evX U = (c, 0)) (hc : ¬ c = 0) (z : sm g w XS) (hr : RE w F) : some (Value.int c) = some (Value.int (evX U).1) ∧ sm g w XR ∧ RE w (F ++ (if (evX U).1 = 0 then decB (evX U).2 else [])) := by
  rw [h]
  exact ⟨rfl, z.mono XS_XR, by rw [if_neg hc, List.append_nil]; exact hr⟩
theorem evX_of {U : List Int32} {d : Nat} {e : Ev} (h : eRn U.length (U, [], [], true, false) = eRn d e) (hd : d = 0 ∨ e.1 = []) : evX U = evF e := by
  rw [evX, h]
  cases d with
  | zero => rfl
  | succ d =>
    rcases hd with hd | hd
    · cases hd
    · rw [eRn, if_pos hd]
theorem evX_no {U : List Int32} {d : Nat} {e : Ev} (h : eRn U.length (U, [], [], true, false) = eRn (d + 1) e) (he : ¬ e.1 = []) (hs : eSt e = none) : evX U = (38, 0) := by
  rw [evX, h, eRn, if_neg he, hs]
  rfl
set_option maxHeartbeats 4000000 in
set_option maxRecDepth 100000 in
theorem k_evaluate (l : Launch) (q : ev_T) {b r0 n0 st n : Nat} {xs F : List Int32} {ov : Bool} {g : mu_T} (hS : Shp g) (hY : RB g b r0 n0 xs ov) (hn0 : n0 < 1073741824) (hbX : b ∉ XS) (hrX : r0 ∉ XS) (hen : st + n ≤ xs.length) (hR : RE g F) : Ctr l q M_Ex_evaluate 7 [.ref 997, .ref b, .int (nI st), .int (nI n), .ref 5] (0, 0, g) (fun v w => v = some (.int (evX ((xs.drop st).take n)).1) ∧ sm g w.2.2 XR ∧ RE w.2.2 (F ++ (if (evX ((xs.drop st).take n)).1 = 0 then decB (evX ((xs.drop st).take n)).2 else []))) := by
  have hyn := hY.2.1
  have hul : ((xs.drop st).take n).length = n := by rw [List.length_take, List.length_drop]; omega
  refine Ctr.mk (lb := [some (.ref 997), some (.ref b), some (.int (nI st)), some (.int (nI n)), some (.ref 5), none, none, none]) (by decide +kernel) (Nat.le_of_ble_eq_true rfl) rfl rfl ?_
  intro pp ee ss mm aa bb mt cd X hrt hlk hnm
  have fin : ∀ (u : mu_T) (a : Nat) (e : Ev), EX u b a (st + n) e.2.1 e.2.2.1 (frn e.2.2.1) e.2.2.2.1 e.2.2.2.2 → eI e → sm g u XS → Shp u → RE u F → evX ((xs.drop st).take n) = evF e → Vv pp l ee (rmT 7 0 0) ss mm aa bb mt cd 8 q (MQ bb (Qw q (fun v w => v = some (.int (evX ((xs.drop st).take n)).1) ∧ sm g w.2.2 XR ∧ RE w.2.2 (F ++ (if (evX ((xs.drop st).take n)).1 = 0 then decB (evX ((xs.drop st).take n)).2 else [])))) aa ss 0 0 (fun a => q.1 ≤ a)) 133 [some (.ref 997), some (.ref b), some (.int (nI st)), some (.int (nI n)), some (.ref 5), none, none, none] [] (0, 0, u) := by
    intro u a e hEu hI zu hSu hRu hres
    have hYu := hY.sm zu hbX hrX
    rcases (show e.2.2.2.1 = true ∨ e.2.2.2.1 = false by cases e.2.2.2.1 <;> simp) with hd | hd
    · refine v_aload_n X (dk D_Ex_evaluate 64 rfl) rfl ?_
      refine v_getI X (dk D_Ex_evaluate 65 rfl) F_Ex_48 rfl rfl (hSu.lt (by decide)) ?_
      refine v_if_eq (tgt := 143) X (dk D_Ex_evaluate 66 rfl) (by decide) (fun c137 => absurd c137 (by rw [hEu.2.2.2.2.2.2.1, hd]; decide)) (fun _ => ?_)
      refine v_bipush (v := 38) X (dk D_Ex_evaluate 67 rfl) (by decide) ?_
      exact v_iret X hlk hrt (dk D_Ex_evaluate 68 rfl) (ev_er (by rw [hres, evF, if_pos hd]) (by decide) zu hRu)
    · refine v_aload_n X (dk D_Ex_evaluate 64 rfl) rfl ?_
      refine v_getI X (dk D_Ex_evaluate 65 rfl) F_Ex_48 rfl rfl (hSu.lt (by decide)) ?_
      refine v_if_eq (tgt := 143) X (dk D_Ex_evaluate 66 rfl) (by decide) (fun _ => ?_) (fun c137 => absurd (by rw [hEu.2.2.2.2.2.2.1, hd]; rfl) c137)
      refine v_aload_n X (dk D_Ex_evaluate 69 rfl) rfl ?_
      refine v_iconst (v := 1) X (dk D_Ex_evaluate 70 rfl) (by decide) ?_
      refine v_invV (As := [.int 1]) (st := []) X (k_reckon l q hSu hEu hI.1 hI.2.1 (by rw [hI.2.2, hd]; rfl) (by decide)) (dk D_Ex_evaluate 71 rfl) G_Ex_68 K_Ex_reckon V_Ex_reckon rfl rfl (hSu.lt (by decide)) rfl rfl (Nat.le_of_ble_eq_true rfl) (Nat.le_of_ble_eq_true rfl) (Nat.le_of_ble_eq_true rfl) (Nat.le_of_ble_eq_true rfl) (Nat.le_of_ble_eq_true rfl) ?_
      rintro v w ⟨rfl, y1, y2⟩
      have S1 := hSu.sm y1
      have R1 := hRu.sm y1 (by decide) (by decide)
      have z1 := zu.tr y1 (U := XS) (fun _ h => h) (fun _ h => h)
      obtain ⟨i1, i2, i3, i4⟩ := rck_inv 1 e.2.2.1 e.2.1 e.2.2.2.2 hI.1 (by rw [hI.2.2, hd]; rfl)
      have i5 := okW_340 i1 (Nat.le_trans i3 hI.2.1)
      have i6 := btw_le (rck 1 e.2.2.1 e.2.1 e.2.2.2.2).2.1
      show Vv _ _ _ _ _ _ _ _ _ _ _ _ _ _ _ [] (0, 0, w.2.2)
      refine v_aload_n X (dk D_Ex_evaluate 72 rfl) rfl ?_
      refine v_getI X (dk D_Ex_evaluate 73 rfl) F_Ex_71 rfl rfl (S1.lt (by decide)) ?_
      refine v_if_gt (tgt := 163) X (dk D_Ex_evaluate 74 rfl) (by decide) (fun c152 => ?_) (fun c152 => ?_)
      · refine v_bipush (v := 38) X (dk D_Ex_evaluate 79 rfl) (by decide) ?_
        exact v_iret X hlk hrt (dk D_Ex_evaluate 80 rfl) (ev_er (by rw [hres, evF, if_neg (by rw [hd]; decide), if_neg (fun z => by rw [y2.2.2.2.2.1, z.1] at c152; exact absurd c152 (by decide))]) (by decide) z1 R1)
      · refine v_aload_n X (dk D_Ex_evaluate 75 rfl) rfl ?_
        refine v_getI X (dk D_Ex_evaluate 76 rfl) F_Ex_74 rfl rfl (S1.lt (by decide)) ?_
        refine v_iconst (v := 1) X (dk D_Ex_evaluate 77 rfl) (by decide) ?_
        refine v_icmp_eq (tgt := 166) X (dk D_Ex_evaluate 78 rfl) (by decide) (fun c160 => ?_) (fun c160 => ?_)
        · have hone : (rck 1 e.2.2.1 e.2.1 e.2.2.2.2).2.1 = [] ∧ (rck 1 e.2.2.1 e.2.1 e.2.2.2.2).1.length = 1 := ⟨by rw [y2.2.2.2.2.1] at c152; exact List.length_eq_zero_iff.mp (Decidable.byContradiction (fun h => c152 (nI_gt0 (by omega) (by omega)))), by rw [y2.2.2.2.1] at c160; exact (nI_eq (b := 1) (by omega) (by decide)).mp c160⟩
          refine v_aload_n X (dk D_Ex_evaluate 81 rfl) rfl ?_
          refine v_getI X (dk D_Ex_evaluate 82 rfl) F_Ex_77 rfl rfl (S1.lt (by decide)) ?_
          refine v_if_eq (tgt := 176) X (dk D_Ex_evaluate 83 rfl) (by decide) (fun c170 => ?_) (fun c170 => ?_)
          · refine v_aload X (dk D_Ex_evaluate 86 rfl) rfl ?_
            refine v_aload_n X (dk D_Ex_evaluate 87 rfl) rfl ?_
            refine v_getF X (dk D_Ex_evaluate 88 rfl) F_Ex_20 rfl rfl (S1.lt (by decide)) (S1.2 997 3) ?_
            refine v_iconst (v := 0) X (dk D_Ex_evaluate 89 rfl) (by decide) ?_
            refine v_iald X (dk D_Ex_evaluate 90 rfl) rfl (S1.lt (by decide)) (show vp_in 0 342 from pk_in 0 342 (by decide)) ?_
            rw [show gI w.2.2 1000 (0 : Int32).toNatClampNeg = (rck 1 e.2.2.1 e.2.1 e.2.2.2.2).1.getD 0 0 from by obtain ⟨x, hx⟩ := List.length_eq_one_iff.mp hone.2; have h0 := y2.2.2.2.2.2.2.2.2.1; rw [hx] at h0 ⊢; exact h0.1]
            refine v_invV (As := [.int ((rck 1 e.2.2.1 e.2.1 e.2.2.2.2).1.getD 0 0)]) (st := []) X (kr_addNumber l q R1) (dk D_Ex_evaluate 91 rfl) G_Ex_80 K_By_addNumber V_By_addNumber rfl rfl (S1.lt (by decide)) rfl rfl (Nat.le_of_ble_eq_true rfl) (Nat.le_of_ble_eq_true rfl) (Nat.le_of_ble_eq_true rfl) (Nat.le_of_ble_eq_true rfl) (Nat.le_of_ble_eq_true rfl) ?_
            rintro v w2 ⟨rfl, a1, a2⟩
            show Vv _ _ _ _ _ _ _ _ _ _ _ _ _ _ _ [] (0, 0, w2.2.2)
            refine v_iconst (v := 0) X (dk D_Ex_evaluate 92 rfl) (by decide) ?_
            exact v_iret X hlk hrt (dk D_Ex_evaluate 93 rfl) (by have hb : ¬ (rck 1 e.2.2.1 e.2.1 e.2.2.2.2).2.2 = true := (fun h => by rw [y2.2.2.2.2.2.2.2.1, h] at c170; exact absurd c170 (by decide)); have hx : evX ((xs.drop st).take n) = (0, (rck 1 e.2.2.1 e.2.1 e.2.2.2.2).1.getD 0 0) := (by rw [hres, evF, if_neg (by rw [hd]; decide), if_pos hone, if_neg hb]); exact ⟨by rw [hx], (z1.mono XS_XR).tr a1 (U := XR) (fun _ h => h) (by decide), by rw [hx]; exact a2⟩)
          · refine v_bipush (v := 39) X (dk D_Ex_evaluate 84 rfl) (by decide) ?_
            exact v_iret X hlk hrt (dk D_Ex_evaluate 85 rfl) (ev_er (by rw [hres, evF, if_neg (by rw [hd]; decide), if_pos hone, if_pos (by rcases (show (rck 1 e.2.2.1 e.2.1 e.2.2.2.2).2.2 = true ∨ (rck 1 e.2.2.1 e.2.1 e.2.2.2.2).2.2 = false by cases (rck 1 e.2.2.1 e.2.1 e.2.2.2.2).2.2 <;> simp) with h | h; exact h; rw [y2.2.2.2.2.2.2.2.1, h] at c170; exact absurd rfl c170)]) (by decide) z1 R1)
        · refine v_bipush (v := 38) X (dk D_Ex_evaluate 79 rfl) (by decide) ?_
          exact v_iret X hlk hrt (dk D_Ex_evaluate 80 rfl) (ev_er (by rw [hres, evF, if_neg (by rw [hd]; decide), if_neg (fun z => by rw [y2.2.2.2.1, z.2] at c160; exact absurd rfl c160)]) (by decide) z1 R1)
  have loop : ∀ (d k : Nat) (u : mu_T) (a : Nat) (e : Ev), k + d = n → EX u b a (st + n) e.2.1 e.2.2.1 (frn e.2.2.1) e.2.2.2.1 e.2.2.2.2 → eI e → sm g u XS → Shp u → RE u F → a ≤ st + n → rsE xs a (st + n) = e.1 → eRn ((xs.drop st).take n).length (((xs.drop st).take n), [], [], true, false) = eRn d e → Vv pp l ee (rmT 7 0 0) ss mm aa bb mt cd 8 q (MQ bb (Qw q (fun v w => v = some (.int (evX ((xs.drop st).take n)).1) ∧ sm g w.2.2 XR ∧ RE w.2.2 (F ++ (if (evX ((xs.drop st).take n)).1 = 0 then decB (evX ((xs.drop st).take n)).2 else [])))) aa ss 0 0 (fun a => q.1 ≤ a)) 12 [some (.ref 997), some (.ref b), some (.int (nI st)), some (.int (nI n)), some (.ref 5), some (.int (nI k)), none, none] [] (0, 0, u) := by
    intro d
    induction d with
    | zero =>
      intro k u a e hkd hEu hI zu hSu hRu ha hre hrn
      have hYu := hY.sm zu hbX hrX
      refine v_iload X (dk D_Ex_evaluate 9 rfl) rfl ?_
      refine v_iload_n X (dk D_Ex_evaluate 10 rfl) rfl ?_
      refine v_icmp_ge (tgt := 133) X (dk D_Ex_evaluate 11 rfl) (by decide) (fun _ => ?_) (fun c15 => absurd (nI_le (by omega) (by omega)) c15)
      exact v_weak (la := [some (.ref 997), some (.ref b), some (.int (nI st)), some (.int (nI n)), some (.ref 5), none, none, none]) ⟨rfl, rfl, rfl, rfl, rfl, trivial⟩ (fin u a e hEu hI zu hSu hRu (evX_of hrn (Or.inl rfl)))
    | succ d ih =>
      intro k u a e hkd hEu hI zu hSu hRu ha hre hrn
      have hYu := hY.sm zu hbX hrX
      by_cases ha0 : st + n ≤ a
      · refine v_iload X (dk D_Ex_evaluate 9 rfl) rfl ?_
        refine v_iload_n X (dk D_Ex_evaluate 10 rfl) rfl ?_
        refine v_icmp_ge (tgt := 133) X (dk D_Ex_evaluate 11 rfl) (by decide) (fun c15 => absurd c15 (nI_ge (by omega) (by omega))) (fun _ => ?_)
        refine v_aload_n X (dk D_Ex_evaluate 12 rfl) rfl ?_
        refine v_getI X (dk D_Ex_evaluate 13 rfl) F_Ex_34 rfl rfl (hSu.lt (by decide)) ?_
        refine v_aload_n X (dk D_Ex_evaluate 14 rfl) rfl ?_
        refine v_getI X (dk D_Ex_evaluate 15 rfl) F_Ex_38 rfl rfl (hSu.lt (by decide)) ?_
        refine v_icmp_ge (tgt := 133) X (dk D_Ex_evaluate 16 rfl) (by decide) (fun _ => ?_) (fun c26 => absurd (by rw [hEu.2.1, hEu.2.2.1]; exact nI_le (by omega) (by omega)) c26)
        exact v_weak (la := [some (.ref 997), some (.ref b), some (.int (nI st)), some (.int (nI n)), some (.ref 5), none, none, none]) ⟨rfl, rfl, rfl, rfl, rfl, trivial⟩ (fin u a e hEu hI zu hSu hRu (evX_of hrn (Or.inr (by rw [← hre]; exact rsE_nil (by omega)))))
      · have ha0 : a < st + n := by omega
        have hre2 := rsE_cons ha0 hen
        have hne : ¬ e.1 = [] := by rw [← hre, hre2]; exact fun h => by cases h
        obtain ⟨j, hj, ej⟩ := pk_andE (xs.getD a 0) (m := 255) 8 rfl
        have he : e = (xs.getD a 0 :: rsE xs (a + 1) (st + n), e.2.1, e.2.2.1, e.2.2.2.1, e.2.2.2.2) := by obtain ⟨e1, e2⟩ := e; rw [← hre2]; exact congrArg (fun z => (z, e2)) hre.symm
        have hes : eSt e = _ := (congrArg eSt he).trans (eSt_eq _ _ _ _ _ _)
        have cont : ∀ (u2 : mu_T) (E : Option Ev) (x6 v7 : Int32), eSt e = E → v7 = (if E.isSome = true then 1 else 0) → sm g u2 XS → Shp u2 → (∀ e2, E = some e2 → ∃ a2, a2 ≤ st + n ∧ rsE xs a2 (st + n) = e2.1 ∧ EX u2 b a2 (st + n) e2.2.1 e2.2.2.1 (frn e2.2.2.1) e2.2.2.2.1 e2.2.2.2.2 ∧ eI e2) → Vv pp l ee (rmT 7 0 0) ss mm aa bb mt cd 8 q (MQ bb (Qw q (fun v w => v = some (.int (evX ((xs.drop st).take n)).1) ∧ sm g w.2.2 XR ∧ RE w.2.2 (F ++ (if (evX ((xs.drop st).take n)).1 = 0 then decB (evX ((xs.drop st).take n)).2 else [])))) aa ss 0 0 (fun a => q.1 ≤ a)) 119 [some (.ref 997), some (.ref b), some (.int (nI st)), some (.int (nI n)), some (.ref 5), some (.int (nI k)), some (.int x6), some (.int v7)] [] (0, 0, u2) := by
          intro u2 E x6 v7 hst2 hv7 z2 hS2 hE2
          have hYu := hY.sm z2 hbX hrX
          have hRu2 := hR.sm z2 (by decide) (by decide)
          refine v_iload X (dk D_Ex_evaluate 58 rfl) rfl ?_
          refine v_if_ne (tgt := 127) X (dk D_Ex_evaluate 59 rfl) (by decide) (fun c121 => ?_) (fun c121 => ?_)
          · obtain ⟨e2, he2⟩ : ∃ e2, E = some e2 := by rcases on_or E with h | h; rw [hv7, h] at c121; exact absurd rfl c121; exact h
            obtain ⟨a2, q1, q2, q3, q4⟩ := hE2 e2 he2
            refine v_iinc (v := nI (k + 1)) (lb := [some (.ref 997), some (.ref b), some (.int (nI st)), some (.int (nI n)), some (.ref 5), some (.int (nI (k + 1))), some (.int x6), some (.int v7)]) X (dk D_Ex_evaluate 62 rfl) rfl (nI_1 k) (by decide) rfl ?_
            refine v_goto (tgt := 12) X (dk D_Ex_evaluate 63 rfl) (by decide) ?_
            exact v_weak (la := [some (.ref 997), some (.ref b), some (.int (nI st)), some (.int (nI n)), some (.ref 5), some (.int (nI (k + 1))), none, none]) ⟨rfl, rfl, rfl, rfl, rfl, rfl, trivial⟩ (ih (k + 1) u2 a2 e2 (by omega) q3 q4 z2 hS2 hRu2 q1 q2 (by rw [hrn, eRn, if_neg hne, hst2, he2]; rfl))
          · have hno : E = none := by rcases on_or E with h | ⟨e2, h⟩; exact h; rw [hv7, h] at c121; exact absurd c121 (show ¬ (1 : Int32) = 0 by decide)
            refine v_bipush (v := 38) X (dk D_Ex_evaluate 60 rfl) (by decide) ?_
            exact v_iret X hlk hrt (dk D_Ex_evaluate 61 rfl) (ev_er (evX_no hrn hne (by rw [hst2, hno])) (by decide) z2 (hRu2))
        refine v_iload X (dk D_Ex_evaluate 9 rfl) rfl ?_
        refine v_iload_n X (dk D_Ex_evaluate 10 rfl) rfl ?_
        refine v_icmp_ge (tgt := 133) X (dk D_Ex_evaluate 11 rfl) (by decide) (fun c15 => absurd c15 (nI_ge (by omega) (by omega))) (fun _ => ?_)
        refine v_aload_n X (dk D_Ex_evaluate 12 rfl) rfl ?_
        refine v_getI X (dk D_Ex_evaluate 13 rfl) F_Ex_34 rfl rfl (hSu.lt (by decide)) ?_
        refine v_aload_n X (dk D_Ex_evaluate 14 rfl) rfl ?_
        refine v_getI X (dk D_Ex_evaluate 15 rfl) F_Ex_38 rfl rfl (hSu.lt (by decide)) ?_
        refine v_icmp_ge (tgt := 133) X (dk D_Ex_evaluate 16 rfl) (by decide) (fun c26 => absurd c26 (by rw [hEu.2.1, hEu.2.2.1]; exact nI_ge (by omega) (by omega))) (fun _ => ?_)
        refine v_aload_n X (dk D_Ex_evaluate 17 rfl) rfl ?_
        refine v_getR X (dk D_Ex_evaluate 18 rfl) F_Ex_14 rfl rfl (hSu.lt (by decide)) hEu.1 ?_
        refine v_aload_n X (dk D_Ex_evaluate 19 rfl) rfl ?_
        refine v_getI X (dk D_Ex_evaluate 20 rfl) F_Ex_34 rfl rfl (hSu.lt (by decide)) ?_
        rw [hEu.2.1]
        refine v_invV (As := [.int (nI a)]) (st := []) X (k_at l q hYu) (dk D_Ex_evaluate 21 rfl) G_Ex_41 K_By_at V_By_at hYu.1.1 rfl hYu.1.2.1 rfl rfl (Nat.le_of_ble_eq_true rfl) (Nat.le_of_ble_eq_true rfl) (Nat.le_of_ble_eq_true rfl) (Nat.le_of_ble_eq_true rfl) (Nat.le_of_ble_eq_true rfl) ?_
        rintro v w ⟨rfl, hw2⟩
        rw [hw2, atL_nI (show a < xs.length by omega) (by omega)]
        show Vv _ _ _ _ _ _ _ _ _ _ _ _ _ _ _ [.int (xs.getD a 0 &&& 255)] (0, 0, u)
        refine v_istore (lb := [some (.ref 997), some (.ref b), some (.int (nI st)), some (.int (nI n)), some (.ref 5), some (.int (nI k)), some (.int (xs.getD a 0 &&& 255)), none]) X (dk D_Ex_evaluate 22 rfl) (by decide) rfl ?_
        refine v_iload X (dk D_Ex_evaluate 23 rfl) rfl ?_
        refine v_invS (As := [.int (xs.getD a 0 &&& 255)]) (st := []) X (k_isSpace l q (b := (xs.getD a 0 &&& 255)) (g := u)) (dk D_Ex_evaluate 24 rfl) G_Ex_44 K_Mi_isSpace S_Mi_isSpace rfl rfl (Nat.le_of_ble_eq_true rfl) (Nat.le_of_ble_eq_true rfl) (Nat.le_of_ble_eq_true rfl) (Nat.le_of_ble_eq_true rfl) (Nat.le_of_ble_eq_true rfl) ?_
        rintro v w ⟨rfl, hw2⟩
        rw [hw2]
        show Vv _ _ _ _ _ _ _ _ _ _ _ _ _ _ _ [.int (if isSpc (xs.getD a 0 &&& 255) = true then 1 else 0)] (0, 0, u)
        refine v_if_eq (tgt := 66) X (dk D_Ex_evaluate 25 rfl) (by decide) (fun c47 => ?_) (fun c47 => ?_)
        · refine v_aload_n X (dk D_Ex_evaluate 35 rfl) rfl ?_
          refine v_getI X (dk D_Ex_evaluate 36 rfl) F_Ex_48 rfl rfl (hSu.lt (by decide)) ?_
          refine v_if_eq (tgt := 99) X (dk D_Ex_evaluate 37 rfl) (by decide) (fun c70 => ?_) (fun c70 => ?_)
          · refine v_iload X (dk D_Ex_evaluate 49 rfl) rfl ?_
            refine v_bipush (v := 41) X (dk D_Ex_evaluate 50 rfl) (by decide) ?_
            refine v_icmp_ne (tgt := 113) X (dk D_Ex_evaluate 51 rfl) (by decide) (fun c103 => ?_) (fun c103 => ?_)
            · have hdn := show e.2.2.2.1 = false from by rcases (show e.2.2.2.1 = true ∨ e.2.2.2.1 = false by cases e.2.2.2.1 <;> simp) with h | h; rw [hEu.2.2.2.2.2.2.1, h] at c70; exact absurd c70 (by decide); exact h
              refine v_aload_n X (dk D_Ex_evaluate 55 rfl) rfl ?_
              refine v_invV (As := []) (st := []) X (k_takeBetween l q hSu (hdn ▸ hEu) hYu hn0 hbX hrX hen (by omega) hI.1 hI.2.1 (by rw [hI.2.2, hdn]; rfl)) (dk D_Ex_evaluate 56 rfl) G_Ex_65 K_Ex_takeBetween V_Ex_takeBetween rfl rfl (hSu.lt (by decide)) rfl rfl (Nat.le_of_ble_eq_true rfl) (Nat.le_of_ble_eq_true rfl) (Nat.le_of_ble_eq_true rfl) (Nat.le_of_ble_eq_true rfl) (Nat.le_of_ble_eq_true rfl) ?_
              rintro v w ⟨rfl, y1, y2⟩
              show Vv _ _ _ _ _ _ _ _ _ _ _ _ _ _ _ [.int (if (beE (rsE xs a (st + n)) e.2.1 e.2.2.1 e.2.2.2.2).isSome = true then 1 else 0)] (0, 0, w.2.2)
              refine v_istore (lb := [some (.ref 997), some (.ref b), some (.int (nI st)), some (.int (nI n)), some (.ref 5), some (.int (nI k)), some (.int (xs.getD a 0 &&& 255)), some (.int (if (beE (rsE xs a (st + n)) e.2.1 e.2.2.1 e.2.2.2.2).isSome = true then 1 else 0))]) X (dk D_Ex_evaluate 57 rfl) (by decide) rfl ?_
              exact cont w.2.2 (beE (rsE xs a (st + n)) e.2.1 e.2.2.1 e.2.2.2.2) _ _ (by rw [hes, if_neg (show ¬ isSpc (xs.getD a 0 &&& 255) = true from fun h => absurd c47 (by rw [if_pos h]; decide)), if_neg (by rw [hdn]; decide), if_neg c103, ← hre2]) rfl (zu.tr y1 (U := XS) (fun _ h => h) (fun _ h => h)) (hSu.sm y1) y2
            · have hdn := show e.2.2.2.1 = false from by rcases (show e.2.2.2.1 = true ∨ e.2.2.2.1 = false by cases e.2.2.2.1 <;> simp) with h | h; rw [hEu.2.2.2.2.2.2.1, h] at c70; exact absurd c70 (by decide); exact h
              refine v_aload_n X (dk D_Ex_evaluate 52 rfl) rfl ?_
              refine v_invV (As := []) (st := []) X (k_takeClosing l q hSu (hdn ▸ hEu) hYu hn0 hbX hrX hen ha0 hI.1 hI.2.1 (by rw [hI.2.2, hdn]; rfl)) (dk D_Ex_evaluate 53 rfl) G_Ex_62 K_Ex_takeClosing V_Ex_takeClosing rfl rfl (hSu.lt (by decide)) rfl rfl (Nat.le_of_ble_eq_true rfl) (Nat.le_of_ble_eq_true rfl) (Nat.le_of_ble_eq_true rfl) (Nat.le_of_ble_eq_true rfl) (Nat.le_of_ble_eq_true rfl) ?_
              rintro v w ⟨rfl, y1, y2⟩
              show Vv _ _ _ _ _ _ _ _ _ _ _ _ _ _ _ [.int (if (clE (rsE xs (a + 1) (st + n)) e.2.1 e.2.2.1 e.2.2.2.2).isSome = true then 1 else 0)] (0, 0, w.2.2)
              refine v_goto (tgt := 117) X (dk D_Ex_evaluate 54 rfl) (by decide) ?_
              refine v_istore (lb := [some (.ref 997), some (.ref b), some (.int (nI st)), some (.int (nI n)), some (.ref 5), some (.int (nI k)), some (.int (xs.getD a 0 &&& 255)), some (.int (if (clE (rsE xs (a + 1) (st + n)) e.2.1 e.2.2.1 e.2.2.2.2).isSome = true then 1 else 0))]) X (dk D_Ex_evaluate 57 rfl) (by decide) rfl ?_
              exact cont w.2.2 (clE (rsE xs (a + 1) (st + n)) e.2.1 e.2.2.1 e.2.2.2.2) _ _ (by rw [hes, if_neg (show ¬ isSpc (xs.getD a 0 &&& 255) = true from fun h => absurd c47 (by rw [if_pos h]; decide)), if_neg (by rw [hdn]; decide), if_pos (show (xs.getD a 0 &&& 255) = 41 from c103)]) rfl (zu.tr y1 (U := XS) (fun _ h => h) (fun _ h => h)) (hSu.sm y1) y2
          · refine v_iload X (dk D_Ex_evaluate 38 rfl) rfl ?_
            refine v_invS (As := [.int (xs.getD a 0 &&& 255)]) (st := []) X (k_isDigit l q (b := (xs.getD a 0 &&& 255)) (g := u)) (dk D_Ex_evaluate 39 rfl) G_Ex_52 K_Mi_isDigit S_Mi_isDigit rfl rfl (Nat.le_of_ble_eq_true rfl) (Nat.le_of_ble_eq_true rfl) (Nat.le_of_ble_eq_true rfl) (Nat.le_of_ble_eq_true rfl) (Nat.le_of_ble_eq_true rfl) ?_
            rintro v w ⟨rfl, hw2⟩
            rw [hw2]
            show Vv _ _ _ _ _ _ _ _ _ _ _ _ _ _ _ [.int (if isDig (xs.getD a 0 &&& 255) = true then 1 else 0)] (0, 0, u)
            refine v_if_eq (tgt := 88) X (dk D_Ex_evaluate 40 rfl) (by decide) (fun c78 => ?_) (fun c78 => ?_)
            · have hdu := show e.2.2.2.1 = true from by rcases (show e.2.2.2.1 = true ∨ e.2.2.2.1 = false by cases e.2.2.2.1 <;> simp) with h | h; exact h; rw [hEu.2.2.2.2.2.2.1, h] at c70; exact absurd rfl c70
              rw [ej]
              refine v_aload_n X (dk D_Ex_evaluate 44 rfl) rfl ?_
              refine v_iload X (dk D_Ex_evaluate 45 rfl) rfl ?_
              refine v_invV (As := [.int (nI j)]) (st := []) X (k_takeInFront l q hSu (hdu ▸ hEu) hYu hn0 hbX hrX hen ha0 hI.1 hI.2.1 (by rw [hI.2.2, if_pos hdu]; rfl) hj) (dk D_Ex_evaluate 46 rfl) G_Ex_59 K_Ex_takeInFront V_Ex_takeInFront rfl rfl (hSu.lt (by decide)) rfl rfl (Nat.le_of_ble_eq_true rfl) (Nat.le_of_ble_eq_true rfl) (Nat.le_of_ble_eq_true rfl) (Nat.le_of_ble_eq_true rfl) (Nat.le_of_ble_eq_true rfl) ?_
              rintro v w ⟨rfl, y1, y2⟩
              show Vv _ _ _ _ _ _ _ _ _ _ _ _ _ _ _ [.int (if (frE (nI j) (rsE xs (a + 1) (st + n)) e.2.1 e.2.2.1 e.2.2.2.2).isSome = true then 1 else 0)] (0, 0, w.2.2)
              refine v_istore (lb := [some (.ref 997), some (.ref b), some (.int (nI st)), some (.int (nI n)), some (.ref 5), some (.int (nI k)), some (.int (nI j)), some (.int (if (frE (nI j) (rsE xs (a + 1) (st + n)) e.2.1 e.2.2.1 e.2.2.2.2).isSome = true then 1 else 0))]) X (dk D_Ex_evaluate 47 rfl) (by decide) rfl ?_
              refine v_goto (tgt := 119) X (dk D_Ex_evaluate 48 rfl) (by decide) ?_
              exact cont w.2.2 (frE (nI j) (rsE xs (a + 1) (st + n)) e.2.1 e.2.2.1 e.2.2.2.2) _ _ (by rw [hes, if_neg (show ¬ isSpc (xs.getD a 0 &&& 255) = true from fun h => absurd c47 (by rw [if_pos h]; decide)), if_pos hdu, if_neg (show ¬ isDig (xs.getD a 0 &&& 255) = true from fun h => absurd c78 (by rw [if_pos h]; decide)), ej]) rfl (zu.tr y1 (U := XS) (fun _ h => h) (fun _ h => h)) (hSu.sm y1) y2
            · have hdu := show e.2.2.2.1 = true from by rcases (show e.2.2.2.1 = true ∨ e.2.2.2.1 = false by cases e.2.2.2.1 <;> simp) with h | h; exact h; rw [hEu.2.2.2.2.2.2.1, h] at c70; exact absurd rfl c70
              refine v_aload_n X (dk D_Ex_evaluate 41 rfl) rfl ?_
              refine v_invV (As := []) (st := []) X (k_takeNumber l q hSu (hdu ▸ hEu) hYu hn0 hbX hrX hen (by omega) hI.1 hI.2.1 (by rw [hI.2.2, if_pos hdu]; rfl)) (dk D_Ex_evaluate 42 rfl) G_Ex_55 K_Ex_takeNumber V_Ex_takeNumber rfl rfl (hSu.lt (by decide)) rfl rfl (Nat.le_of_ble_eq_true rfl) (Nat.le_of_ble_eq_true rfl) (Nat.le_of_ble_eq_true rfl) (Nat.le_of_ble_eq_true rfl) (Nat.le_of_ble_eq_true rfl) ?_
              rintro v w ⟨rfl, y1, y2⟩
              show Vv _ _ _ _ _ _ _ _ _ _ _ _ _ _ _ [.int (if (nuE (rsE xs a (st + n)) e.2.1 e.2.2.1 e.2.2.2.2).isSome = true then 1 else 0)] (0, 0, w.2.2)
              refine v_goto (tgt := 94) X (dk D_Ex_evaluate 43 rfl) (by decide) ?_
              refine v_istore (lb := [some (.ref 997), some (.ref b), some (.int (nI st)), some (.int (nI n)), some (.ref 5), some (.int (nI k)), some (.int (xs.getD a 0 &&& 255)), some (.int (if (nuE (rsE xs a (st + n)) e.2.1 e.2.2.1 e.2.2.2.2).isSome = true then 1 else 0))]) X (dk D_Ex_evaluate 47 rfl) (by decide) rfl ?_
              refine v_goto (tgt := 119) X (dk D_Ex_evaluate 48 rfl) (by decide) ?_
              exact cont w.2.2 (nuE (rsE xs a (st + n)) e.2.1 e.2.2.1 e.2.2.2.2) _ _ (by rw [hes, if_neg (show ¬ isSpc (xs.getD a 0 &&& 255) = true from fun h => absurd c47 (by rw [if_pos h]; decide)), if_pos hdu, if_pos (show isDig (xs.getD a 0 &&& 255) = true from Decidable.byContradiction (fun h => c78 (if_neg h))), ← hre2]) rfl (zu.tr y1 (U := XS) (fun _ h => h) (fun _ h => h)) (hSu.sm y1) y2
        · refine v_aload_n X (dk D_Ex_evaluate 26 rfl) rfl ?_
          refine v_dup X (dk D_Ex_evaluate 27 rfl) rfl ?_
          refine v_getI X (dk D_Ex_evaluate 28 rfl) F_Ex_34 rfl rfl (hSu.lt (by decide)) ?_
          refine v_iconst (v := 1) X (dk D_Ex_evaluate 29 rfl) (by decide) ?_
          refine v_iadd X (dk D_Ex_evaluate 30 rfl) ?_
          rw [hEu.2.1, nI_1]
          refine v_putI X (dk D_Ex_evaluate 31 rfl) F_Ex_34 CK_Ex rfl rfl (hSu.lt (by decide)) rfl rfl ?_
          refine v_iconst (v := 1) X (dk D_Ex_evaluate 32 rfl) (by decide) ?_
          refine v_istore (lb := [some (.ref 997), some (.ref b), some (.int (nI st)), some (.int (nI n)), some (.ref 5), some (.int (nI k)), some (.int (xs.getD a 0 &&& 255)), some (.int 1)]) X (dk D_Ex_evaluate 33 rfl) (by decide) rfl ?_
          refine v_goto (tgt := 119) X (dk D_Ex_evaluate 34 rfl) (by decide) ?_
          exact cont (xI u 997 1 (nI (a + 1))) (some (rsE xs (a + 1) (st + n), e.2.1, e.2.2.1, e.2.2.2.1, e.2.2.2.2)) _ _ (by rw [hes, if_pos (show isSpc (xs.getD a 0 &&& 255) = true from Decidable.byContradiction (fun h => c47 (if_neg h)))]) rfl (zu.xI (by decide)) (hSu.sm ((sm.rf u XS).xI (by decide))) (fun e2 h2 => by cases h2; exact ⟨a + 1, by omega, rfl, hEu.at_ (a + 1), hI⟩)
  refine v_aload_n X (dk D_Ex_evaluate 0 rfl) rfl ?_
  refine v_aload_n X (dk D_Ex_evaluate 1 rfl) rfl ?_
  refine v_iload_n X (dk D_Ex_evaluate 2 rfl) rfl ?_
  refine v_iload_n X (dk D_Ex_evaluate 3 rfl) rfl ?_
  refine v_iload_n X (dk D_Ex_evaluate 4 rfl) rfl ?_
  refine v_iadd X (dk D_Ex_evaluate 5 rfl) ?_
  rw [nI_add]
  refine v_invV (As := [.ref b, .int (nI st), .int (nI (st + n))]) (st := []) X (k_Ex_begin l q (b := b) (st := st) (en := st + n) hS) (dk D_Ex_evaluate 6 rfl) G_Ex_30 K_Ex_begin V_Ex_begin rfl rfl (hS.lt (by decide)) rfl rfl (Nat.le_of_ble_eq_true rfl) (Nat.le_of_ble_eq_true rfl) (Nat.le_of_ble_eq_true rfl) (Nat.le_of_ble_eq_true rfl) (Nat.le_of_ble_eq_true rfl) ?_
  rintro v w ⟨rfl, y1, y2⟩
  show Vv _ _ _ _ _ _ _ _ _ _ _ _ _ _ _ [] (0, 0, w.2.2)
  refine v_iconst (v := nI 0) X (dk D_Ex_evaluate 7 rfl) (by decide) ?_
  refine v_istore (lb := [some (.ref 997), some (.ref b), some (.int (nI st)), some (.int (nI n)), some (.ref 5), some (.int (nI 0)), none, none]) X (dk D_Ex_evaluate 8 rfl) (by decide) rfl ?_
  exact loop n 0 w.2.2 st (((xs.drop st).take n), [], [], true, false) (by omega) y2 ⟨trivial, Nat.zero_le _, rfl⟩ y1 (hS.sm y1) (hR.sm y1 (by decide) (by decide)) (by omega) (by rw [rsE, Nat.add_sub_cancel_left]) (by rw [hul])
