/-! Input: readQuoted -/
def nqM (op cl : List Int32) (I : Ip) : Nat := if bgn I.1 cl = true then cl.length else if bgn I.1 op = true then op.length else 1
def nqN (op cl : List Int32) (n : Nat) (I : Ip) : Nat := if bgn I.1 cl = true then n - 1 else if bgn I.1 op = true then n + 1 else n
def rdQ (op cl : List Int32) : Nat → Nat → Ip → Int32 × Ip × List Int32
  | 0, _, I => (32, I, [])
  | d + 1, n, I => if I.1 = [] then (32, I, []) else if bgn I.1 cl = true ∧ n = 1 then (if (tkL cl.length I).1 = true then 0 else 31, (tkL cl.length I).2.1, [])
    else if (tkL (nqM op cl I) I).1 = true then ((rdQ op cl d (nqN op cl n I) (tkL (nqM op cl I) I).2.1).1, (rdQ op cl d (nqN op cl n I) (tkL (nqM op cl I) I).2.1).2.1, (tkL (nqM op cl I) I).2.2 ++ (rdQ op cl d (nqN op cl n I) (tkL (nqM op cl I) I).2.1).2.2)
    else (31, (tkL (nqM op cl I) I).2.1, (tkL (nqM op cl I) I).2.2)
def rdQ0 (op cl : List Int32) (I : Ip) : Int32 × Ip × List Int32 := if (tkL op.length I).1 = true then rdQ op cl 32768 1 (tkL op.length I).2.1 else (31, (tkL op.length I).2.1, [])
theorem tkL_len : ∀ (m : Nat) (J : Ip), (tkL m J).2.1.1.length + (tkL m J).2.2.length = J.1.length
  | 0, J => rfl
  | m + 1, J => by
    by_cases c : tkV J < 0
    · rw [show tkL (m + 1) J = (false, J, []) from if_pos c]; rfl
    · rw [show tkL (m + 1) J = ((tkL m (tkI J)).1, (tkL m (tkI J)).2.1, J.1.getD 0 0 :: (tkL m (tkI J)).2.2) from if_neg c]
      have h := tkL_len m (tkI J)
      have h2 := tk_len c
      simp only [List.length_cons]
      omega
set_option maxHeartbeats 4000000 in
set_option maxRecDepth 100000 in
theorem k_readQuoted (l : Launch) (q : ev_T) {fu : Nat} {I : Ip} {xs op cl : List Int32} {oo oc : Bool} {g : mu_T} (hS : Shp g) (hI : IQ g fu I) (hX : RB g 12 13 32768 xs false) (hxl : xs.length + I.1.length ≤ 32768) (hO : RB g 8 9 4 op oo) (hC : RB g 10 11 4 cl oc) : Ctr l q M_In_readQuoted 3 [.ref 7] (0, 0, g) (fun v w => v = some (.int (rdQ0 op cl I).1) ∧ sm g w.2.2 [7, 12, 13] ∧ IQ w.2.2 fu (rdQ0 op cl I).2.1 ∧ gI w.2.2 7 3 = 1 ∧ gI w.2.2 7 4 = gI g 7 4 ∧ RB w.2.2 12 13 32768 (xs ++ (rdQ0 op cl I).2.2) false) := by
  have hO4 := hO.2.1
  have hC4 := hC.2.1
  refine Ctr.mk (lb := [some (.ref 7), none, none, none]) (by decide +kernel) (Nat.le_of_ble_eq_true rfl) rfl rfl ?_
  intro pp ee ss mm aa bb mt cd X hrt hlk hnm
  have bad : ∀ (n k : Int32) (u : mu_T) (J : Ip) (zs : List Int32), sm g u [7, 12, 13] → gI u 7 3 = 1 → gI u 7 4 = gI g 7 4 → IQ u fu J → RB u 12 13 32768 zs false → (rdQ0 op cl I).1 = 31 → (rdQ0 op cl I).2.1 = J → xs ++ (rdQ0 op cl I).2.2 = zs → Vv pp l ee (rmT 3 0 0) ss mm aa bb mt cd 4 q (MQ bb (Qw q (fun v w => v = some (.int (rdQ0 op cl I).1) ∧ sm g w.2.2 [7, 12, 13] ∧ IQ w.2.2 fu (rdQ0 op cl I).2.1 ∧ gI w.2.2 7 3 = 1 ∧ gI w.2.2 7 4 = gI g 7 4 ∧ RB w.2.2 12 13 32768 (xs ++ (rdQ0 op cl I).2.2) false)) aa ss 0 0 (fun a => q.1 ≤ a)) 22 [some (.ref 7), some (.int 31), some (.int n), some (.int k)] [] (0, 0, u) := by
    intro n k u J zs hs hk3 hk4 hIu hRB e1 e2 e3
    have hSu := hS.sm hs
    refine v_iload_n X (dk D_In_readQuoted 14 rfl) rfl ?_
    refine v_ldc X (dk D_In_readQuoted 15 rfl) C_In_23 ?_
    refine v_icmp_ge (tgt := 129) X (dk D_In_readQuoted 16 rfl) (by decide) (fun c25 => ?_) (fun c25 => ?_)
    · refine v_iload_n X (dk D_In_readQuoted 66 rfl) rfl ?_
      refine v_if_eq (tgt := 137) X (dk D_In_readQuoted 67 rfl) (by decide) (fun c130 => absurd c130 (by decide)) (fun _ => ?_)
      refine v_iload_n X (dk D_In_readQuoted 68 rfl) rfl ?_
      refine v_goto (tgt := 139) X (dk D_In_readQuoted 69 rfl) (by decide) ?_
      exact v_iret X hlk hrt (dk D_In_readQuoted 71 rfl) (by rw [e1, e2, e3]; exact ⟨rfl, hs, hIu, hk3, hk4, hRB⟩)
    · refine v_iload_n X (dk D_In_readQuoted 17 rfl) rfl ?_
      refine v_if_ne (tgt := 129) X (dk D_In_readQuoted 18 rfl) (by decide) (fun _ => ?_) (fun c29 => absurd c29 (by decide))
      refine v_iload_n X (dk D_In_readQuoted 66 rfl) rfl ?_
      refine v_if_eq (tgt := 137) X (dk D_In_readQuoted 67 rfl) (by decide) (fun c130 => absurd c130 (by decide)) (fun _ => ?_)
      refine v_iload_n X (dk D_In_readQuoted 68 rfl) rfl ?_
      refine v_goto (tgt := 139) X (dk D_In_readQuoted 69 rfl) (by decide) ?_
      exact v_iret X hlk hrt (dk D_In_readQuoted 71 rfl) (by rw [e1, e2, e3]; exact ⟨rfl, hs, hIu, hk3, hk4, hRB⟩)
  have loop : ∀ (d n k : Nat) (u : mu_T) (J : Ip) (zs : List Int32), k + d = 32768 → 1 ≤ n → n ≤ k + 1 → sm g u [7, 12, 13] → gI u 7 3 = 1 → gI u 7 4 = gI g 7 4 → IQ u fu J → RB u 12 13 32768 zs false → zs.length + J.1.length ≤ 32768 → (rdQ0 op cl I).1 = (rdQ op cl d n J).1 → (rdQ0 op cl I).2.1 = (rdQ op cl d n J).2.1 → xs ++ (rdQ0 op cl I).2.2 = zs ++ (rdQ op cl d n J).2.2 → Vv pp l ee (rmT 3 0 0) ss mm aa bb mt cd 4 q (MQ bb (Qw q (fun v w => v = some (.int (rdQ0 op cl I).1) ∧ sm g w.2.2 [7, 12, 13] ∧ IQ w.2.2 fu (rdQ0 op cl I).2.1 ∧ gI w.2.2 7 3 = 1 ∧ gI w.2.2 7 4 = gI g 7 4 ∧ RB w.2.2 12 13 32768 (xs ++ (rdQ0 op cl I).2.2) false)) aa ss 0 0 (fun a => q.1 ≤ a)) 22 [some (.ref 7), some (.int 0), some (.int (nI n)), some (.int (nI k))] [] (0, 0, u) := by
    intro d
    induction d with
    | zero =>
      intro n k u J zs hkd hn0 hnk hs hk3 hk4 hIu hRB hzl e1 e2 e3
      have hSu := hS.sm hs
      have hOu := hO.sm hs (by decide) (by decide)
      have hCu := hC.sm hs (by decide) (by decide)
      have hO4 := hO.2.1
      have hC4 := hC.2.1
      refine v_iload_n X (dk D_In_readQuoted 14 rfl) rfl ?_
      refine v_ldc X (dk D_In_readQuoted 15 rfl) C_In_23 ?_
      refine v_icmp_ge (tgt := 129) X (dk D_In_readQuoted 16 rfl) (by decide) (fun _ => ?_) (fun c25 => absurd (nI_le (a := 32768) (by omega) (by omega)) c25)
      refine v_iload_n X (dk D_In_readQuoted 66 rfl) rfl ?_
      refine v_if_eq (tgt := 137) X (dk D_In_readQuoted 67 rfl) (by decide) (fun _ => ?_) (fun c130 => absurd rfl c130)
      refine v_bipush (v := 32) X (dk D_In_readQuoted 70 rfl) (by decide) ?_
      exact v_iret X hlk hrt (dk D_In_readQuoted 71 rfl) (by rw [e1, e2, e3]; refine ⟨rfl, hs, hIu, hk3, hk4, ?_⟩; show RB _ _ _ _ (zs ++ []) _; rw [List.append_nil]; exact hRB)
    | succ d ih =>
      intro n k u J zs hkd hn0 hnk hs hk3 hk4 hIu hRB hzl e1 e2 e3
      have hSu := hS.sm hs
      have hOu := hO.sm hs (by decide) (by decide)
      have hCu := hC.sm hs (by decide) (by decide)
      have hO4 := hO.2.1
      have hC4 := hC.2.1
      have cont : ¬ J.1 = [] → ∀ (m n2 : Nat) (w : mu_T), nqM op cl J = m → nqN op cl n J = n2 → 1 ≤ n2 → n2 ≤ k + 2 → sm u w [7, 12, 13] → IQ w fu (tkL m J).2.1 → kp u w → RB w 12 13 32768 (zs ++ ktL true (tkL m J).2.2) false → ¬ (bgn J.1 cl = true ∧ n = 1) → Vv pp l ee (rmT 3 0 0) ss mm aa bb mt cd 4 q (MQ bb (Qw q (fun v w => v = some (.int (rdQ0 op cl I).1) ∧ sm g w.2.2 [7, 12, 13] ∧ IQ w.2.2 fu (rdQ0 op cl I).2.1 ∧ gI w.2.2 7 3 = 1 ∧ gI w.2.2 7 4 = gI g 7 4 ∧ RB w.2.2 12 13 32768 (xs ++ (rdQ0 op cl I).2.2) false)) aa ss 0 0 (fun a => q.1 ≤ a)) 123 [some (.ref 7), some (.int (if (tkL m J).1 = true then 0 else 31)), some (.int (nI n2)), some (.int (nI k))] [] (0, 0, w) := by
        intro hne m n2 w hm hn2 b1 b2 y1 y2 y3 y4 y5
        refine v_iinc (v := nI (k + 1)) (lb := [some (.ref 7), some (.int (if (tkL m J).1 = true then 0 else 31)), some (.int (nI n2)), some (.int (nI (k + 1)))]) X (dk D_In_readQuoted 64 rfl) rfl (nI_1 k) (by decide) rfl ?_
        refine v_goto (tgt := 22) X (dk D_In_readQuoted 65 rfl) (by decide) ?_
        have hs2 := hs.tr y1 (U := [7, 12, 13]) (fun _ z => z) (fun _ z => z)
        subst hm
        subst hn2
        replace y4 : RB w 12 13 32768 (zs ++ (tkL (nqM op cl J) J).2.2) false := y4
        by_cases hc : (tkL (nqM op cl J) J).1 = true
        · have e : rdQ op cl (d + 1) n J = ((rdQ op cl d (nqN op cl n J) (tkL (nqM op cl J) J).2.1).1, (rdQ op cl d (nqN op cl n J) (tkL (nqM op cl J) J).2.1).2.1, (tkL (nqM op cl J) J).2.2 ++ (rdQ op cl d (nqN op cl n J) (tkL (nqM op cl J) J).2.1).2.2) := (if_neg hne).trans ((if_neg y5).trans (if_pos hc))
          rw [e] at e1 e2 e3
          rw [show (if (tkL (nqM op cl J) J).1 = true then (0 : Int32) else 31) = 0 from if_pos hc]
          have hl := tkL_len (nqM op cl J) J
          exact ih (nqN op cl n J) (k + 1) _ _ _ (by omega) b1 (by omega) hs2 (y3.1.trans hk3) (y3.2.trans hk4) y2 y4 (by rw [List.length_append]; omega) e1 e2 (by rw [e3, List.append_assoc])
        · have e : rdQ op cl (d + 1) n J = (31, (tkL (nqM op cl J) J).2.1, (tkL (nqM op cl J) J).2.2) := (if_neg hne).trans ((if_neg y5).trans (if_neg hc))
          rw [e] at e1 e2 e3
          rw [show (if (tkL (nqM op cl J) J).1 = true then (0 : Int32) else 31) = 31 from if_neg hc]
          exact bad _ _ _ _ _ hs2 (y3.1.trans hk3) (y3.2.trans hk4) y2 y4 e1 e2 e3
      refine v_iload_n X (dk D_In_readQuoted 14 rfl) rfl ?_
      refine v_ldc X (dk D_In_readQuoted 15 rfl) C_In_23 ?_
      refine v_icmp_ge (tgt := 129) X (dk D_In_readQuoted 16 rfl) (by decide) (fun c25 => absurd c25 (nI_ge (b := 32768) (by omega) (by decide))) (fun _ => ?_)
      refine v_iload_n X (dk D_In_readQuoted 17 rfl) rfl ?_
      refine v_if_ne (tgt := 129) X (dk D_In_readQuoted 18 rfl) (by decide) (fun c29 => absurd (by decide) c29) (fun _ => ?_)
      refine v_aload_n X (dk D_In_readQuoted 19 rfl) rfl ?_
      refine v_invV (As := []) (st := []) X (k_left l q hSu hIu) (dk D_In_readQuoted 20 rfl) G_In_66 K_In_left V_In_left rfl rfl (hSu.lt (by decide)) rfl rfl (Nat.le_of_ble_eq_true rfl) (Nat.le_of_ble_eq_true rfl) (Nat.le_of_ble_eq_true rfl) (Nat.le_of_ble_eq_true rfl) (Nat.le_of_ble_eq_true rfl) ?_
      rintro v w ⟨rfl, hw⟩
      rw [hw]
      show Vv _ _ _ _ _ _ _ _ _ _ _ _ _ _ _ [.int (nI J.1.length)] (0, 0, u)
      refine v_if_le (tgt := 129) X (dk D_In_readQuoted 21 rfl) (by decide) (fun c36 => ?_) (fun c36 => ?_)
      · refine v_iload_n X (dk D_In_readQuoted 66 rfl) rfl ?_
        refine v_if_eq (tgt := 137) X (dk D_In_readQuoted 67 rfl) (by decide) (fun _ => ?_) (fun c130 => absurd rfl c130)
        refine v_bipush (v := 32) X (dk D_In_readQuoted 70 rfl) (by decide) ?_
        exact v_iret X hlk hrt (dk D_In_readQuoted 71 rfl) (by rw [e1, e2, e3, show rdQ op cl (d + 1) n J = (32, J, []) from if_pos ((len_0 hIu.len).mp c36)]; refine ⟨rfl, hs, hIu, hk3, hk4, ?_⟩; show RB _ _ _ _ (zs ++ []) _; rw [List.append_nil]; exact hRB)
      · have hne : ¬ J.1 = [] := fun z => c36 ((len_0 hIu.len).mpr z)
        refine v_aload_n X (dk D_In_readQuoted 22 rfl) rfl ?_
        refine v_aload_n X (dk D_In_readQuoted 23 rfl) rfl ?_
        refine v_getF X (dk D_In_readQuoted 24 rfl) F_In_20 rfl rfl (hSu.lt (by decide)) (hSu.2 7 1) ?_
        refine v_invV (As := [.ref 10]) (st := []) X (k_begins l q hSu hIu hCu) (dk D_In_readQuoted 25 rfl) G_In_98 K_In_begins V_In_begins rfl rfl (hSu.lt (by decide)) rfl rfl (Nat.le_of_ble_eq_true rfl) (Nat.le_of_ble_eq_true rfl) (Nat.le_of_ble_eq_true rfl) (Nat.le_of_ble_eq_true rfl) (Nat.le_of_ble_eq_true rfl) ?_
        rintro v w ⟨rfl, hw⟩
        rw [hw]
        show Vv _ _ _ _ _ _ _ _ _ _ _ _ _ _ _ [.int (if bgn J.1 cl = true then 1 else 0)] (0, 0, u)
        refine v_if_eq (tgt := 86) X (dk D_In_readQuoted 26 rfl) (by decide) (fun c47 => ?_) (fun c47 => ?_)
        · have hcl : ¬ bgn J.1 cl = true := fun e => absurd c47 (by rw [if_pos e]; decide)
          refine v_aload_n X (dk D_In_readQuoted 45 rfl) rfl ?_
          refine v_aload_n X (dk D_In_readQuoted 46 rfl) rfl ?_
          refine v_getF X (dk D_In_readQuoted 47 rfl) F_In_14 rfl rfl (hSu.lt (by decide)) (hSu.2 7 0) ?_
          refine v_invV (As := [.ref 8]) (st := []) X (k_begins l q hSu hIu hOu) (dk D_In_readQuoted 48 rfl) G_In_98 K_In_begins V_In_begins rfl rfl (hSu.lt (by decide)) rfl rfl (Nat.le_of_ble_eq_true rfl) (Nat.le_of_ble_eq_true rfl) (Nat.le_of_ble_eq_true rfl) (Nat.le_of_ble_eq_true rfl) (Nat.le_of_ble_eq_true rfl) ?_
          rintro v w ⟨rfl, hw⟩
          rw [hw]
          show Vv _ _ _ _ _ _ _ _ _ _ _ _ _ _ _ [.int (if bgn J.1 op = true then 1 else 0)] (0, 0, u)
          refine v_if_eq (tgt := 116) X (dk D_In_readQuoted 49 rfl) (by decide) (fun c94 => ?_) (fun c94 => ?_)
          · have hop : ¬ bgn J.1 op = true := fun e => absurd c94 (by rw [if_pos e]; decide)
            refine v_aload_n X (dk D_In_readQuoted 59 rfl) rfl ?_
            refine v_iconst (v := 1) X (dk D_In_readQuoted 60 rfl) (by decide) ?_
            refine v_iconst (v := 1) X (dk D_In_readQuoted 61 rfl) (by decide) ?_
            refine v_invV (As := [.int (nI 1), .int 1]) (st := []) X (k_takeSome l q (n := 1) (kt := true) hSu hIu hRB hzl (by omega)) (dk D_In_readQuoted 62 rfl) G_In_115 K_In_takeSome V_In_takeSome rfl rfl (hSu.lt (by decide)) rfl rfl (Nat.le_of_ble_eq_true rfl) (Nat.le_of_ble_eq_true rfl) (Nat.le_of_ble_eq_true rfl) (Nat.le_of_ble_eq_true rfl) (Nat.le_of_ble_eq_true rfl) ?_
            rintro v w ⟨rfl, hw1, hw2, hw3, hw4⟩
            show Vv _ _ _ _ _ _ _ _ _ _ _ _ _ _ _ [.int (if (tkL 1 J).1 = true then 0 else 31)] (0, 0, w.2.2)
            refine v_istore_n (lb := [some (.ref 7), some (.int (if (tkL 1 J).1 = true then 0 else 31)), some (.int (nI n)), some (.int (nI k))]) X (dk D_In_readQuoted 63 rfl) (by decide) rfl ?_
            exact cont hne 1 n w.2.2 ((if_neg hcl).trans (if_neg hop)) ((if_neg hcl).trans (if_neg hop)) (by omega) (by omega) hw1 hw2 hw3 hw4 (fun z => hcl z.1)
          · have hop : bgn J.1 op = true := Decidable.byContradiction (fun e => c94 (if_neg e))
            refine v_iinc (v := nI (n + 1)) (lb := [some (.ref 7), some (.int 0), some (.int (nI (n + 1))), some (.int (nI k))]) X (dk D_In_readQuoted 50 rfl) rfl (nI_1 n) (by decide) rfl ?_
            refine v_aload_n X (dk D_In_readQuoted 51 rfl) rfl ?_
            refine v_aload_n X (dk D_In_readQuoted 52 rfl) rfl ?_
            refine v_getF X (dk D_In_readQuoted 53 rfl) F_In_14 rfl rfl (hSu.lt (by decide)) (hSu.2 7 0) ?_
            refine v_getI X (dk D_In_readQuoted 54 rfl) F_In_59 rfl rfl (hSu.lt (by decide)) ?_
            rw [hOu.2.2.1]
            refine v_iconst (v := 1) X (dk D_In_readQuoted 55 rfl) (by decide) ?_
            refine v_invV (As := [.int (nI op.length), .int 1]) (st := []) X (k_takeSome l q (n := op.length) (kt := true) hSu hIu hRB hzl (by omega)) (dk D_In_readQuoted 56 rfl) G_In_115 K_In_takeSome V_In_takeSome rfl rfl (hSu.lt (by decide)) rfl rfl (Nat.le_of_ble_eq_true rfl) (Nat.le_of_ble_eq_true rfl) (Nat.le_of_ble_eq_true rfl) (Nat.le_of_ble_eq_true rfl) (Nat.le_of_ble_eq_true rfl) ?_
            rintro v w ⟨rfl, hw1, hw2, hw3, hw4⟩
            show Vv _ _ _ _ _ _ _ _ _ _ _ _ _ _ _ [.int (if (tkL op.length J).1 = true then 0 else 31)] (0, 0, w.2.2)
            refine v_istore_n (lb := [some (.ref 7), some (.int (if (tkL op.length J).1 = true then 0 else 31)), some (.int (nI (n + 1))), some (.int (nI k))]) X (dk D_In_readQuoted 57 rfl) (by decide) rfl ?_
            refine v_goto (tgt := 123) X (dk D_In_readQuoted 58 rfl) (by decide) ?_
            exact cont hne op.length (n + 1) w.2.2 ((if_neg hcl).trans (if_pos hop)) ((if_neg hcl).trans (if_pos hop)) (by omega) (by omega) hw1 hw2 hw3 hw4 (fun z => hcl z.1)
        · have hcl : bgn J.1 cl = true := Decidable.byContradiction (fun e => c47 (if_neg e))
          refine v_iinc (v := nI (n - 1)) (lb := [some (.ref 7), some (.int 0), some (.int (nI (n - 1))), some (.int (nI k))]) X (dk D_In_readQuoted 27 rfl) rfl (sb_m1 (by omega)) (by decide) rfl ?_
          refine v_iload_n X (dk D_In_readQuoted 28 rfl) rfl ?_
          refine v_if_ne (tgt := 70) X (dk D_In_readQuoted 29 rfl) (by decide) (fun c54 => ?_) (fun c54 => ?_)
          · have hn1 : 1 < n := by rcases Nat.lt_or_ge 1 n with y | y; exact y; exact absurd (show nI (n - 1) = 0 from by rw [show n - 1 = 0 by omega]; rfl) c54
            refine v_aload_n X (dk D_In_readQuoted 37 rfl) rfl ?_
            refine v_aload_n X (dk D_In_readQuoted 38 rfl) rfl ?_
            refine v_getF X (dk D_In_readQuoted 39 rfl) F_In_20 rfl rfl (hSu.lt (by decide)) (hSu.2 7 1) ?_
            refine v_getI X (dk D_In_readQuoted 40 rfl) F_In_59 rfl rfl (hSu.lt (by decide)) ?_
            rw [hCu.2.2.1]
            refine v_iconst (v := 1) X (dk D_In_readQuoted 41 rfl) (by decide) ?_
            refine v_invV (As := [.int (nI cl.length), .int 1]) (st := []) X (k_takeSome l q (n := cl.length) (kt := true) hSu hIu hRB hzl (by omega)) (dk D_In_readQuoted 42 rfl) G_In_115 K_In_takeSome V_In_takeSome rfl rfl (hSu.lt (by decide)) rfl rfl (Nat.le_of_ble_eq_true rfl) (Nat.le_of_ble_eq_true rfl) (Nat.le_of_ble_eq_true rfl) (Nat.le_of_ble_eq_true rfl) (Nat.le_of_ble_eq_true rfl) ?_
            rintro v w ⟨rfl, hw1, hw2, hw3, hw4⟩
            show Vv _ _ _ _ _ _ _ _ _ _ _ _ _ _ _ [.int (if (tkL cl.length J).1 = true then 0 else 31)] (0, 0, w.2.2)
            refine v_istore_n (lb := [some (.ref 7), some (.int (if (tkL cl.length J).1 = true then 0 else 31)), some (.int (nI (n - 1))), some (.int (nI k))]) X (dk D_In_readQuoted 43 rfl) (by decide) rfl ?_
            refine v_goto (tgt := 123) X (dk D_In_readQuoted 44 rfl) (by decide) ?_
            exact cont hne cl.length (n - 1) w.2.2 (if_pos hcl) (if_pos hcl) (by omega) (by omega) hw1 hw2 hw3 hw4 (fun z => by have := z.2; omega)
          · have hn1 : n = 1 := by rcases Nat.lt_or_ge 1 n with y | y; exact absurd c54 (nI_ne0 (by omega) (by omega)); omega
            refine v_aload_n X (dk D_In_readQuoted 30 rfl) rfl ?_
            refine v_aload_n X (dk D_In_readQuoted 31 rfl) rfl ?_
            refine v_getF X (dk D_In_readQuoted 32 rfl) F_In_20 rfl rfl (hSu.lt (by decide)) (hSu.2 7 1) ?_
            refine v_getI X (dk D_In_readQuoted 33 rfl) F_In_59 rfl rfl (hSu.lt (by decide)) ?_
            rw [hCu.2.2.1]
            refine v_iconst (v := 0) X (dk D_In_readQuoted 34 rfl) (by decide) ?_
            refine v_invV (As := [.int (nI cl.length), .int 0]) (st := []) X (k_takeSome l q (n := cl.length) (kt := false) hSu hIu hRB hzl (by omega)) (dk D_In_readQuoted 35 rfl) G_In_115 K_In_takeSome V_In_takeSome rfl rfl (hSu.lt (by decide)) rfl rfl (Nat.le_of_ble_eq_true rfl) (Nat.le_of_ble_eq_true rfl) (Nat.le_of_ble_eq_true rfl) (Nat.le_of_ble_eq_true rfl) (Nat.le_of_ble_eq_true rfl) ?_
            rintro v w ⟨rfl, hw1, hw2, hw3, hw4⟩
            show Vv _ _ _ _ _ _ _ _ _ _ _ _ _ _ _ [.int (if (tkL cl.length J).1 = true then 0 else 31)] (0, 0, w.2.2)
            exact v_iret X hlk hrt (dk D_In_readQuoted 36 rfl) (by rw [e1, e2, e3, show rdQ op cl (d + 1) n J = (if (tkL cl.length J).1 = true then 0 else 31, (tkL cl.length J).2.1, []) from (if_neg hne).trans (if_pos ⟨hcl, hn1⟩)]; exact ⟨rfl, hs.tr hw1 (fun _ z => z) (fun _ z => z), hw2, hw3.1.trans hk3, hw3.2.trans hk4, hw4⟩)
  refine v_aload_n X (dk D_In_readQuoted 0 rfl) rfl ?_
  refine v_iconst (v := 1) X (dk D_In_readQuoted 1 rfl) (by decide) ?_
  refine v_putI X (dk D_In_readQuoted 2 rfl) F_In_95 CK_In rfl rfl (hS.lt (by decide)) rfl rfl ?_
  have z1 : sm g (xI g 7 3 1) [7] := (sm.rf g _).xI (by simp)
  have hS1 := hS.sm z1
  refine v_aload_n X (dk D_In_readQuoted 3 rfl) rfl ?_
  refine v_aload_n X (dk D_In_readQuoted 4 rfl) rfl ?_
  refine v_getF X (dk D_In_readQuoted 5 rfl) F_In_14 rfl rfl (hS1.lt (by decide)) (hS1.2 7 0) ?_
  refine v_getI X (dk D_In_readQuoted 6 rfl) F_In_59 rfl rfl (hS1.lt (by decide)) ?_
  rw [z1.I (by decide), hO.2.2.1]
  refine v_iconst (v := 0) X (dk D_In_readQuoted 7 rfl) (by decide) ?_
  refine v_invV (As := [.int (nI op.length), .int 0]) (st := []) X (k_takeSome l q (n := op.length) (kt := false) hS1 (hI.kt 3 _ (by decide)) (hX.sm z1 (by decide) (by decide)) hxl (by omega)) (dk D_In_readQuoted 8 rfl) G_In_115 K_In_takeSome V_In_takeSome rfl rfl (hS1.lt (by decide)) rfl rfl (Nat.le_of_ble_eq_true rfl) (Nat.le_of_ble_eq_true rfl) (Nat.le_of_ble_eq_true rfl) (Nat.le_of_ble_eq_true rfl) (Nat.le_of_ble_eq_true rfl) ?_
  rintro v w ⟨rfl, hw1, hw2, hw3, hw4⟩
  show Vv _ _ _ _ _ _ _ _ _ _ _ _ _ _ _ [.int (if (tkL op.length I).1 = true then 0 else 31)] (0, 0, w.2.2)
  refine v_istore_n (lb := [some (.ref 7), some (.int (if (tkL op.length I).1 = true then 0 else 31)), none, none]) X (dk D_In_readQuoted 9 rfl) (by decide) rfl ?_
  refine v_iconst (v := nI 1) X (dk D_In_readQuoted 10 rfl) (by decide) ?_
  refine v_istore_n (lb := [some (.ref 7), some (.int (if (tkL op.length I).1 = true then 0 else 31)), some (.int (nI 1)), none]) X (dk D_In_readQuoted 11 rfl) (by decide) rfl ?_
  refine v_iconst (v := nI 0) X (dk D_In_readQuoted 12 rfl) (by decide) ?_
  refine v_istore_n (lb := [some (.ref 7), some (.int (if (tkL op.length I).1 = true then 0 else 31)), some (.int (nI 1)), some (.int (nI 0))]) X (dk D_In_readQuoted 13 rfl) (by decide) rfl ?_
  have hs2 : sm g w.2.2 [7, 12, 13] := z1.tr hw1 (by decide) (fun _ z => z)
  have h3 : gI w.2.2 7 3 = 1 := hw3.1.trans (gI_eq _ _ _ _)
  have h4 : gI w.2.2 7 4 = gI g 7 4 := hw3.2.trans (gI_nk (by decide))
  have hl := tkL_len op.length I
  rw [show xs ++ ktL false (tkL op.length I).2.2 = xs from List.append_nil _] at hw4
  by_cases hc : (tkL op.length I).1 = true
  · have e : rdQ0 op cl I = rdQ op cl 32768 1 (tkL op.length I).2.1 := if_pos hc
    rw [show (if (tkL op.length I).1 = true then (0 : Int32) else 31) = 0 from if_pos hc]
    exact loop 32768 1 0 _ _ xs (by decide) (by decide) (by decide) hs2 h3 h4 hw2 hw4 (by omega) (by rw [e]) (by rw [e]) (by rw [e])
  · have e : rdQ0 op cl I = (31, (tkL op.length I).2.1, []) := if_neg hc
    rw [show (if (tkL op.length I).1 = true then (0 : Int32) else 31) = 31 from if_neg hc]
    exact bad _ _ _ _ xs hs2 h3 h4 hw2 hw4 (by rw [e]) (by rw [e]) (by rw [e]; exact List.append_nil _)
