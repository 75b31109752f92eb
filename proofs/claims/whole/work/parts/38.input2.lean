/-! Input: begins, takeSome -/
/-- the sign ys is ahead -/
def bgn (u ys : List Int32) : Bool := decide (∀ k, k < ys.length → atL u (nI k) = ys.getD k 0 &&& 255)
/-- n bytes are taken, or as many as there is fuel for -/
def tkL : Nat → Ip → Bool × Ip × List Int32
  | 0, I => (true, I, [])
  | n + 1, I => if tkV I < 0 then (false, I, []) else ((tkL n (tkI I)).1, (tkL n (tkI I)).2.1, I.1.getD 0 0 :: (tkL n (tkI I)).2.2)
def ktL (b : Bool) (l : List Int32) : List Int32 := if b = true then l else []
theorem tk_yes {I : Ip} (h : 0 ≤ tkV I) : ∃ x u, I.1 = x :: u ∧ tkV I = x &&& 255 ∧ (tkI I).1 = u := by
  obtain ⟨u, m, f, n⟩ := I
  cases u with
  | nil => exact absurd h (by show ¬ (0 : Int32) ≤ -1; decide)
  | cons x u =>
    cases f with
    | zero => exact absurd h (by show ¬ (0 : Int32) ≤ -1; decide)
    | succ f => exact ⟨x, u, rfl, rfl, by simp only [tkI]; split <;> rfl⟩
theorem and255_bv (x : BitVec 32) : (0#32).sle (x &&& 255#32) = true := by
  rw [BitVec.sle_eq_decide]
  have h : (x &&& 255#32).toInt = ((x &&& 255#32).toNat : Int) := by
    rw [BitVec.toInt_eq_toNat_of_lt]
    rw [BitVec.toNat_and]
    have : x.toNat &&& (255#32).toNat ≤ (255#32).toNat := Nat.and_le_right
    have e : (255#32).toNat = 255 := rfl
    omega
  rw [h]
  exact decide_eq_true (Int.natCast_nonneg _)
theorem and255_pos (x : Int32) : (0 : Int32) ≤ x &&& 255 := and255_bv x.toBitVec
theorem tk_bad {I : Ip} (h : ¬ 0 ≤ tkV I) : tkI I = I := by
  obtain ⟨u, m, f, n⟩ := I
  cases u with
  | nil => rfl
  | cons x u =>
    cases f with
    | zero => rfl
    | succ f => exact absurd (and255_pos x) h
set_option maxHeartbeats 4000000 in
set_option maxRecDepth 100000 in
theorem k_begins (l : Launch) (q : ev_T) {fu b r0 : Nat} {I : Ip} {ys : List Int32} {ov : Bool} {g : mu_T} (hS : Shp g) (hI : IQ g fu I) (hY : RB g b r0 4 ys ov) : Ctr l q M_In_begins 2 [.ref 7, .ref b] (0, 0, g) (fun v w => v = some (.int (if bgn I.1 ys = true then 1 else 0)) ∧ w.2.2 = g) := by
  have hy4 := hY.2.1
  refine Ctr.mk (lb := [some (.ref 7), some (.ref b), none]) (by decide +kernel) (Nat.le_of_ble_eq_true rfl) rfl rfl ?_
  intro pp ee ss mm aa bb mt cd X hrt hlk hnm
  have loop : ∀ (d k : Nat), k + d = ys.length → (∀ i, i < k → atL I.1 (nI i) = ys.getD i 0 &&& 255) → Vv pp l ee (rmT 2 0 0) ss mm aa bb mt cd 3 q (MQ bb (Qw q (fun v w => v = some (.int (if bgn I.1 ys = true then 1 else 0)) ∧ w.2.2 = g)) aa ss 0 0 (fun a => q.1 ≤ a)) 2 [some (.ref 7), some (.ref b), some (.int (nI k))] [] (0, 0, g) := by
    intro d
    induction d with
    | zero =>
      intro k hkd hal
      refine v_iload_n X (dk D_In_begins 2 rfl) rfl ?_
      refine v_aload_n X (dk D_In_begins 3 rfl) rfl ?_
      refine v_getI X (dk D_In_begins 4 rfl) F_In_59 rfl hY.1.1 hY.1.2.1 ?_
      refine v_icmp_ge (tgt := 31) X (dk D_In_begins 5 rfl) (by decide) (fun _ => ?_) (fun c7 => absurd (by rw [hY.2.2.1]; exact nI_le (by omega) (by omega)) c7)
      refine v_iconst (v := 1) X (dk D_In_begins 17 rfl) (by decide) ?_
      exact v_zret X hlk hrt rfl (dk D_In_begins 18 rfl) ⟨by rw [if_pos (show bgn I.1 ys = true from decide_eq_true (fun i hi => hal i (by omega)))], rfl⟩
    | succ d ih =>
      intro k hkd hal
      refine v_iload_n X (dk D_In_begins 2 rfl) rfl ?_
      refine v_aload_n X (dk D_In_begins 3 rfl) rfl ?_
      refine v_getI X (dk D_In_begins 4 rfl) F_In_59 rfl hY.1.1 hY.1.2.1 ?_
      refine v_icmp_ge (tgt := 31) X (dk D_In_begins 5 rfl) (by decide) (fun c7 => absurd c7 (by rw [hY.2.2.1]; exact nI_ge (by omega) (by omega))) (fun _ => ?_)
      refine v_aload_n X (dk D_In_begins 6 rfl) rfl ?_
      refine v_iload_n X (dk D_In_begins 7 rfl) rfl ?_
      refine v_invV (As := [.int (nI k)]) (st := []) X (k_peek l q (k := k) hS hI (by omega)) (dk D_In_begins 8 rfl) G_In_92 K_In_peek V_In_peek rfl rfl (hS.lt (by decide)) rfl rfl (Nat.le_of_ble_eq_true rfl) (Nat.le_of_ble_eq_true rfl) (Nat.le_of_ble_eq_true rfl) (Nat.le_of_ble_eq_true rfl) (Nat.le_of_ble_eq_true rfl) ?_
      rintro v w ⟨rfl, hw⟩
      rw [hw]
      show Vv _ _ _ _ _ _ _ _ _ _ _ _ _ _ _ [.int (atL I.1 (nI k))] (0, 0, g)
      refine v_aload_n X (dk D_In_begins 9 rfl) rfl ?_
      refine v_iload_n X (dk D_In_begins 10 rfl) rfl ?_
      refine v_invV (As := [.int (nI k)]) (st := [.int (atL I.1 (nI k))]) X (k_at l q hY) (dk D_In_begins 11 rfl) G_In_62 K_By_at V_By_at hY.1.1 rfl hY.1.2.1 rfl rfl (Nat.le_of_ble_eq_true rfl) (Nat.le_of_ble_eq_true rfl) (Nat.le_of_ble_eq_true rfl) (Nat.le_of_ble_eq_true rfl) (Nat.le_of_ble_eq_true rfl) ?_
      rintro v w ⟨rfl, hw⟩
      rw [hw, atL_nI (show k < ys.length by omega) (by omega)]
      show Vv _ _ _ _ _ _ _ _ _ _ _ _ _ _ _ [.int (ys.getD k 0 &&& 255), .int (atL I.1 (nI k))] (0, 0, g)
      refine v_icmp_eq (tgt := 25) X (dk D_In_begins 12 rfl) (by decide) (fun c20 => ?_) (fun c20 => ?_)
      · refine v_iinc (v := nI (k + 1)) (lb := [some (.ref 7), some (.ref b), some (.int (nI (k + 1)))]) X (dk D_In_begins 15 rfl) rfl (nI_1 k) (by decide) rfl ?_
        refine v_goto (tgt := 2) X (dk D_In_begins 16 rfl) (by decide) ?_
        exact ih (k + 1) (by omega) (fun i hi => if e : i = k then by rw [e]; exact c20 else hal i (by omega))
      · refine v_iconst (v := 0) X (dk D_In_begins 13 rfl) (by decide) ?_
        exact v_zret X hlk hrt rfl (dk D_In_begins 14 rfl) ⟨by rw [if_neg (show ¬ bgn I.1 ys = true from fun e => c20 (of_decide_eq_true e k (by omega)))], rfl⟩
  refine v_iconst (v := nI 0) X (dk D_In_begins 0 rfl) (by decide) ?_
  refine v_istore_n (lb := [some (.ref 7), some (.ref b), some (.int (nI 0))]) X (dk D_In_begins 1 rfl) (by decide) rfl ?_
  exact loop ys.length 0 (by omega) (fun i hi => absurd hi (Nat.not_lt_zero _))
theorem IQ.byte {g : mu_T} {fu : Nat} {I : Ip} (h : IQ g fu I) : ∀ x ∈ I.1, isByte x := by
  obtain ⟨T, bk, ta, ⟨ov, hT⟩, hr, ha1, hat, hu, hm, hba, hbk, hfu, hfl, hff, htk, hln, hl2, h3, hby⟩ := h
  exact hby
theorem IQ.len {g : mu_T} {fu : Nat} {I : Ip} (h : IQ g fu I) : I.1.length ≤ 32768 := by
  obtain ⟨T, bk, ta, ⟨ov, hT⟩, hr, ha1, hat, hu, hm, hba, hbk, hfu, hfl, hff, htk, hln, hl2, h3, hby⟩ := h
  exact h3
set_option maxHeartbeats 4000000 in
set_option maxRecDepth 100000 in
theorem k_takeSome (l : Launch) (q : ev_T) {fu n : Nat} {kt : Bool} {I : Ip} {xs : List Int32} {g : mu_T} (hS : Shp g) (hI : IQ g fu I) (hX : RB g 12 13 32768 xs false) (hxl : xs.length + I.1.length ≤ 32768) (hn : n < 1000000) : Ctr l q M_In_takeSome 2 [.ref 7, .int (nI n), .int (if kt = true then 1 else 0)] (0, 0, g) (fun v w => v = some (.int (if (tkL n I).1 = true then 0 else 31)) ∧ sm g w.2.2 [7, 12, 13] ∧ IQ w.2.2 fu (tkL n I).2.1 ∧ kp g w.2.2 ∧ RB w.2.2 12 13 32768 (xs ++ ktL kt (tkL n I).2.2) false) := by

  refine Ctr.mk (lb := [some (.ref 7), some (.int (nI n)), some (.int (if kt = true then 1 else 0)), none, none]) (by decide +kernel) (Nat.le_of_ble_eq_true rfl) rfl rfl ?_
  intro pp ee ss mm aa bb mt cd X hrt hlk hnm
  have loop : ∀ (d j : Nat) (u : mu_T) (J : Ip) (zs : List Int32), j + d = n → sm g u [7, 12, 13] → kp g u → IQ u fu J → RB u 12 13 32768 zs false → zs.length + J.1.length ≤ 32768 → (tkL n I).1 = (tkL d J).1 → (tkL n I).2.1 = (tkL d J).2.1 → xs ++ ktL kt (tkL n I).2.2 = zs ++ ktL kt (tkL d J).2.2 → Vv pp l ee (rmT 2 0 0) ss mm aa bb mt cd 5 q (MQ bb (Qw q (fun v w => v = some (.int (if (tkL n I).1 = true then 0 else 31)) ∧ sm g w.2.2 [7, 12, 13] ∧ IQ w.2.2 fu (tkL n I).2.1 ∧ kp g w.2.2 ∧ RB w.2.2 12 13 32768 (xs ++ ktL kt (tkL n I).2.2) false)) aa ss 0 0 (fun a => q.1 ≤ a)) 2 [some (.ref 7), some (.int (nI n)), some (.int (if kt = true then 1 else 0)), some (.int (nI j)), none] [] (0, 0, u) := by
    intro d
    induction d with
    | zero =>
      intro j u J zs hjd hs hkp hIu hRB hzl e1 e2 e3
      have hSu := hS.sm hs
      refine v_iload_n X (dk D_In_takeSome 2 rfl) rfl ?_
      refine v_iload_n X (dk D_In_takeSome 3 rfl) rfl ?_
      refine v_icmp_ge (tgt := 40) X (dk D_In_takeSome 4 rfl) (by decide) (fun _ => ?_) (fun c4 => absurd (nI_le (by omega) (by omega)) c4)
      refine v_iconst (v := 0) X (dk D_In_takeSome 20 rfl) (by decide) ?_
      exact v_iret X hlk hrt (dk D_In_takeSome 21 rfl) (by rw [e1, e2, e3]; refine ⟨rfl, hs, hIu, hkp, ?_⟩; show RB _ _ _ _ (zs ++ ktL kt []) _; rw [show ktL kt [] = [] from by cases kt <;> rfl, List.append_nil]; exact hRB)
    | succ d ih =>
      intro j u J zs hjd hs hkp hIu hRB hzl e1 e2 e3
      have hSu := hS.sm hs
      refine v_iload_n X (dk D_In_takeSome 2 rfl) rfl ?_
      refine v_iload_n X (dk D_In_takeSome 3 rfl) rfl ?_
      refine v_icmp_ge (tgt := 40) X (dk D_In_takeSome 4 rfl) (by decide) (fun c4 => absurd c4 (nI_ge (by omega) (by omega))) (fun _ => ?_)
      refine v_aload_n X (dk D_In_takeSome 5 rfl) rfl ?_
      refine v_invV (As := []) (st := []) X (k_In_take l q hSu hIu) (dk D_In_takeSome 6 rfl) G_In_83 K_In_take V_In_take rfl rfl (hSu.lt (by decide)) rfl rfl (Nat.le_of_ble_eq_true rfl) (Nat.le_of_ble_eq_true rfl) (Nat.le_of_ble_eq_true rfl) (Nat.le_of_ble_eq_true rfl) (Nat.le_of_ble_eq_true rfl) ?_
      rintro v w ⟨rfl, hw1, hw2, hw3⟩
      have hS2 := hSu.sm hw1
      show Vv _ _ _ _ _ _ _ _ _ _ _ _ _ _ _ [.int (tkV J)] (0, 0, w.2.2)
      refine v_istore (lb := [some (.ref 7), some (.int (nI n)), some (.int (if kt = true then 1 else 0)), some (.int (nI j)), some (.int (tkV J))]) X (dk D_In_takeSome 7 rfl) (by decide) rfl ?_
      refine v_iload X (dk D_In_takeSome 8 rfl) rfl ?_
      refine v_if_ge (tgt := 21) X (dk D_In_takeSome 9 rfl) (by decide) (fun c15 => ?_) (fun c15 => ?_)
      · refine v_iload_n X (dk D_In_takeSome 12 rfl) rfl ?_
        obtain ⟨y, yu, t1, t2, t3⟩ := tk_yes c15
        have te : tkL (d + 1) J = ((tkL d (tkI J)).1, (tkL d (tkI J)).2.1, J.1.getD 0 0 :: (tkL d (tkI J)).2.2) := if_neg (Int32.not_lt.mpr c15)
        have tb : y.toInt8.toInt32 = y := hIu.byte y (by rw [t1]; exact List.mem_cons_self ..)
        refine v_if_eq (tgt := 34) X (dk D_In_takeSome 13 rfl) (by decide) (fun c22 => ?_) (fun c22 => ?_)
        · refine v_iinc (v := nI (j + 1)) (lb := [some (.ref 7), some (.int (nI n)), some (.int (if kt = true then 1 else 0)), some (.int (nI (j + 1))), some (.int (tkV J))]) X (dk D_In_takeSome 18 rfl) rfl (nI_1 j) (by decide) rfl ?_
          refine v_goto (tgt := 2) X (dk D_In_takeSome 19 rfl) (by decide) ?_
          exact v_weak (la := [some (.ref 7), some (.int (nI n)), some (.int (if kt = true then 1 else 0)), some (.int (nI (j + 1))), none]) ⟨rfl, rfl, rfl, rfl, trivial⟩ (ih (j + 1) _ (tkI J) zs (by omega) (hs.tr hw1 (fun _ z => z) (by decide)) (hkp.tr hw3) hw2 (hRB.sm hw1 (by decide) (by decide)) (by rw [t3]; rw [t1, List.length_cons] at hzl; omega) (by rw [e1, te]) (by rw [e2, te]) (by rw [e3, te, show kt = false from by cases kt; rfl; exact absurd c22 (by decide)]; rfl))
        · refine v_aload_n X (dk D_In_takeSome 14 rfl) rfl ?_
          refine v_getF X (dk D_In_takeSome 15 rfl) F_In_24 rfl rfl (hS2.lt (by decide)) (hS2.2 7 2) ?_
          refine v_iload X (dk D_In_takeSome 16 rfl) rfl ?_
          refine v_invV (As := [.int (tkV J)]) (st := []) X (k_add l q (x := tkV J) (hRB.sm hw1 (by decide) (by decide))) (dk D_In_takeSome 17 rfl) G_In_56 K_By_add V_By_add rfl rfl (hS2.lt (by decide)) rfl rfl (Nat.le_of_ble_eq_true rfl) (Nat.le_of_ble_eq_true rfl) (Nat.le_of_ble_eq_true rfl) (Nat.le_of_ble_eq_true rfl) (Nat.le_of_ble_eq_true rfl) ?_
          rintro v w2 ⟨rfl, hw4, hw5⟩
          show Vv _ _ _ _ _ _ _ _ _ _ _ _ _ _ _ [] (0, 0, w2.2.2)
          refine v_iinc (v := nI (j + 1)) (lb := [some (.ref 7), some (.int (nI n)), some (.int (if kt = true then 1 else 0)), some (.int (nI (j + 1))), some (.int (tkV J))]) X (dk D_In_takeSome 18 rfl) rfl (nI_1 j) (by decide) rfl ?_
          refine v_goto (tgt := 2) X (dk D_In_takeSome 19 rfl) (by decide) ?_
          exact v_weak (la := [some (.ref 7), some (.int (nI n)), some (.int (if kt = true then 1 else 0)), some (.int (nI (j + 1))), none]) ⟨rfl, rfl, rfl, rfl, trivial⟩ (ih (j + 1) _ (tkI J) (zs ++ [y]) (by omega) ((hs.tr hw1 (U := [7, 12, 13]) (fun _ z => z) (by decide)).tr hw4 (fun _ z => z) (by decide)) ((hkp.tr hw3).sm hw4 (by decide)) (hw2.sm hw4 (by decide) (by decide) (by decide) (by decide)) (by rw [t2, and255_b, tb, show ad1 32768 (zs, false) y = (zs ++ [y], false) from if_neg (by intro z; rcases z with z | z; exact Bool.noConfusion (show false = true from z); have : zs.length = 32768 := z; rw [t1, List.length_cons] at hzl; omega)] at hw5; exact hw5) (by rw [t3, List.length_append]; rw [t1, List.length_cons] at hzl; show zs.length + 1 + _ ≤ _; omega) (by rw [e1, te]) (by rw [e2, te]) (by rw [e3, te, show kt = true from by cases kt; exact absurd rfl c22; rfl, show J.1.getD 0 0 = y from by rw [t1]; rfl]; show zs ++ (y :: _) = zs ++ [y] ++ _; rw [List.append_assoc]; rfl))
      · refine v_bipush (v := 31) X (dk D_In_takeSome 10 rfl) (by decide) ?_
        exact v_iret X hlk hrt (dk D_In_takeSome 11 rfl) (by have hb := tk_bad c15; have e : tkL (d + 1) J = (false, J, []) := if_pos (Int32.not_le.mp c15); rw [e] at e1 e2 e3; rw [e1, e2, e3]; rw [hb] at hw2; refine ⟨rfl, hs.tr hw1 (fun _ z => z) (by decide), hw2, hkp.tr hw3, ?_⟩; show RB _ _ _ _ (zs ++ ktL kt []) _; rw [show ktL kt [] = [] from by cases kt <;> rfl, List.append_nil]; exact hRB.sm hw1 (by decide) (by decide))
  refine v_iconst (v := nI 0) X (dk D_In_takeSome 0 rfl) (by decide) ?_
  refine v_istore_n (lb := [some (.ref 7), some (.int (nI n)), some (.int (if kt = true then 1 else 0)), some (.int (nI 0)), none]) X (dk D_In_takeSome 1 rfl) (by decide) rfl ?_
  exact loop n 0 g I xs (by omega) (sm.rf g _) (kp.rf g) hI hX hxl rfl rfl rfl
