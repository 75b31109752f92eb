/-! a token in an argument; a token -/
def dvA (tk : List Int32) (S : Mst) : Int32 × Mst := (if S.2.2.2.2.1 = -1 ∨ dvt S.2.2.2.2.2 + tk.length ≤ 32768 then 0 else 40, (S.1, S.2.1, S.2.2.1, S.2.2.2.1, (S.2.2.2.2.1, (if S.2.2.2.2.1 = -1 ∨ ¬ dvt S.2.2.2.2.2 + tk.length ≤ 32768 then S.2.2.2.2.2 else va_up S.2.2.2.2.2 S.2.2.2.2.1.toNatClampNeg (S.2.2.2.2.2 S.2.2.2.2.1.toNatClampNeg ++ tk)))))
def usT (kd : Int32) (tk : List Int32) (S : Mst) : Int32 × Mst := if kd = 3 ∧ isCl S tk = true then opC tk S else match S.2.2.1.1 with
  | [] => dvA tk S
  | f :: r => uiA kd tk f r S
set_option maxHeartbeats 4000000 in
set_option maxRecDepth 100000 in
theorem k_useInArgument (l : Launch) (q : ev_T) {fu : Nat} {S : Mst} {kd : Int32} {tk : List Int32} {ov : Bool} {f : Fr} {r : List Fr} {g : mu_T} (hW : MW g fu S) (hcm : S.2.2.1.2 = false) (hfs : S.2.2.1.1 = f :: r) (hne : f.2.1 ≠ []) (hn1 : 0 < f.2.2.1) (hnb : f.2.2.1 < 1000000) (hT : RB g 12 13 32768 tk ov) (hkd : gI g 7 3 = kd) : Ctr l q M_Mi_useInArgument 3 [.ref 0] (0, 0, g) (fun v w => v = some (.int (uiA kd tk f r S).1) ∧ sm g w.2.2 RN ∧ MW w.2.2 fu (uiA kd tk f r S).2) := by
  have hS := hW.1
  have hC : CA g (f :: r) false := by have := hW.2.2.2.2.2.2.1; rw [hcm, hfs] at this; exact this
  have hsf : sF S (f :: r) false = S := by rw [sF, ← hfs, ← hcm]
  have hW2 : MW g fu (sF S (f :: r) false) := by rw [hsf]; exact hW
  refine Ctr.mk (lb := [some (.ref 0), none]) (by decide +kernel) (Nat.le_of_ble_eq_true rfl) rfl rfl ?_
  intro pp ee ss mm aa bb mt cd X hrt hlk hnm
  have tail : ∀ (u : mu_T) (f2 : Fr), MW u fu (sF S (f2 :: r) false) → sm g u RN → RB u 12 13 32768 tk ov → f2.2.1 ≠ [] → (uiA kd tk f r S) = hld tk f2 r S → Vv pp l ee (rmT 3 0 0) ss mm aa bb mt cd 2 q (MQ bb (Qw q (fun v w => v = some (.int (uiA kd tk f r S).1) ∧ sm g w.2.2 RN ∧ MW w.2.2 fu (uiA kd tk f r S).2)) aa ss 0 0 (fun a => q.1 ≤ a)) 118 [some (.ref 0), none] [] (0, 0, u) := by
    intro u f2 hWu zu hTu hne2 hres
    have hSu := hWu.1
    have hCu : CA u (f2 :: r) false := hWu.2.2.2.2.2.2.1
    obtain ⟨as, a, has⟩ : ∃ as a, f2.2.1 = as ++ [a] := ⟨f2.2.1.dropLast, f2.2.1.getLast hne2, (List.dropLast_concat_getLast hne2).symm⟩
    refine v_aload_n X (dk D_Mi_useInArgument 56 rfl) rfl ?_
    refine v_getF X (dk D_Mi_useInArgument 57 rfl) F_Mi_37 rfl rfl (hSu.lt (by decide)) (hSu.2 0 4) ?_
    refine v_invV (As := []) (st := []) X (k_noteToken l q hSu hCu hne2) (dk D_Mi_useInArgument 58 rfl) G_Mi_192 K_Ca_noteToken V_Ca_noteToken rfl rfl (hSu.lt (by decide)) rfl rfl (Nat.le_of_ble_eq_true rfl) (Nat.le_of_ble_eq_true rfl) (Nat.le_of_ble_eq_true rfl) (Nat.le_of_ble_eq_true rfl) (Nat.le_of_ble_eq_true rfl) ?_
    rintro v w1 ⟨rfl, a1, a2⟩
    have S1 := hSu.sm a1
    have W1 : MW w1.2.2 fu (sF S ((f2.1, f2.2.1, f2.2.2.1, true) :: r) false) := (hWu.gen a1 (by decide) (by decide) (Or.inr ⟨rfl, by decide, by decide, by decide, by decide⟩) (Or.inr ⟨rfl, by decide, by decide, by decide, by decide⟩) (Or.inl a2) (Or.inr ⟨rfl, M25 CS (by decide)⟩) (Or.inr ⟨rfl, by decide⟩) (Or.inr ⟨by decide, by decide⟩) (Or.inr ⟨by decide, by decide⟩))
    have Z1 := zu.tr a1 (U := RN) (fun _ h => h) (RN_of CS (by decide))
    have T1 := hTu.sm a1 (by decide) (by decide)
    rw [has] at a2
    show Vv _ _ _ _ _ _ _ _ _ _ _ _ _ _ _ [] (0, 0, w1.2.2)
    refine v_aload_n X (dk D_Mi_useInArgument 59 rfl) rfl ?_
    refine v_getF X (dk D_Mi_useInArgument 60 rfl) F_Mi_37 rfl rfl (S1.lt (by decide)) (S1.2 0 4) ?_
    refine v_aload_n X (dk D_Mi_useInArgument 61 rfl) rfl ?_
    refine v_getF X (dk D_Mi_useInArgument 62 rfl) F_Mi_30 rfl rfl (S1.lt (by decide)) (S1.2 0 3) ?_
    refine v_getF X (dk D_Mi_useInArgument 63 rfl) F_Mi_170 rfl rfl (S1.lt (by decide)) (S1.2 7 2) ?_
    refine v_invV (As := [.ref 12]) (st := []) X (k_hold l q S1 a2 T1 (by decide) (by decide) (by decide)) (dk D_Mi_useInArgument 64 rfl) G_Mi_216 K_Ca_hold V_Ca_hold rfl rfl (S1.lt (by decide)) rfl rfl (Nat.le_of_ble_eq_true rfl) (Nat.le_of_ble_eq_true rfl) (Nat.le_of_ble_eq_true rfl) (Nat.le_of_ble_eq_true rfl) (Nat.le_of_ble_eq_true rfl) ?_
    rintro v w2 ⟨rfl, b1, b2, b3⟩
    have Z2 := Z1.tr b1 (U := RN) (fun _ h => h) (RN_of CS (by decide))
    have hlq : (hl ((f2.1, as ++ [a], f2.2.2.1, true) :: r)).length = (hl (f2 :: r)).length := by rw [← has]; rfl
    rw [hlq]
    rw [hlq] at b2 b3
    show Vv _ _ _ _ _ _ _ _ _ _ _ _ _ _ _ [.int (if (hl (f2 :: r)).length + tk.length ≤ 16384 then 1 else 0)] (0, 0, w2.2.2)
    refine v_if_eq (tgt := 146) X (dk D_Mi_useInArgument 65 rfl) (by decide) (fun c139 => ?_) (fun c139 => ?_)
    · refine v_bipush (v := 40) X (dk D_Mi_useInArgument 68 rfl) (by decide) ?_
      exact v_iret X hlk hrt (dk D_Mi_useInArgument 69 rfl) (by have hn : ¬ (hl (f2 :: r)).length + tk.length ≤ 16384 := (fun z => absurd c139 (by rw [if_pos z]; decide)); rw [hres, hld, if_neg hn]; exact ⟨rfl, Z2, by rw [b3 hn]; exact W1⟩)
    · refine v_iconst (v := 0) X (dk D_Mi_useInArgument 66 rfl) (by decide) ?_
      refine v_goto (tgt := 148) X (dk D_Mi_useInArgument 67 rfl) (by decide) ?_
      exact v_iret X hlk hrt (dk D_Mi_useInArgument 69 rfl) (by have hn : (hl (f2 :: r)).length + tk.length ≤ 16384 := Decidable.byContradiction (fun z => c139 (if_neg z)); rw [hres, hld, if_pos hn, has, apL_snoc]; exact ⟨rfl, Z2, (W1.gen b1 (by decide) (by decide) (Or.inr ⟨rfl, by decide, by decide, by decide, by decide⟩) (Or.inr ⟨rfl, by decide, by decide, by decide, by decide⟩) (Or.inl (b2 hn)) (Or.inr ⟨rfl, M25 CS (by decide)⟩) (Or.inr ⟨rfl, by decide⟩) (Or.inr ⟨by decide, by decide⟩) (Or.inr ⟨by decide, by decide⟩))⟩)
  have at75 : kd = 4 → ¬ (isSpc (atL tk (nI 0)) = true ∧ ¬ f.2.2.2 = true) → ¬ ((atL tk (nI 0)) = 44 ∧ f.2.2.1 = 1) → Vv pp l ee (rmT 3 0 0) ss mm aa bb mt cd 2 q (MQ bb (Qw q (fun v w => v = some (.int (uiA kd tk f r S).1) ∧ sm g w.2.2 RN ∧ MW w.2.2 fu (uiA kd tk f r S).2)) aa ss 0 0 (fun a => q.1 ≤ a)) 75 [some (.ref 0), some (.int (atL tk (nI 0)))] [] (0, 0, g) := by
    intro hk4 h1 h2
    refine v_iload_n X (dk D_Mi_useInArgument 35 rfl) rfl ?_
    refine v_bipush (v := 40) X (dk D_Mi_useInArgument 36 rfl) (by decide) ?_
    refine v_icmp_ne (tgt := 92) X (dk D_Mi_useInArgument 37 rfl) (by decide) (fun c78 => ?_) (fun c78 => ?_)
    · refine v_iload_n X (dk D_Mi_useInArgument 43 rfl) rfl ?_
      refine v_bipush (v := 41) X (dk D_Mi_useInArgument 44 rfl) (by decide) ?_
      refine v_icmp_ne (tgt := 118) X (dk D_Mi_useInArgument 45 rfl) (by decide) (fun c95 => ?_) (fun c95 => ?_)
      · exact v_weak (la := [some (.ref 0), none]) ⟨rfl, trivial⟩ (tail g f hW2 (sm.rf _ _) hT hne (by rw [uiA, if_pos hk4, if_neg h1, if_neg h2, if_neg c78, if_neg c95]))
      · refine v_aload_n X (dk D_Mi_useInArgument 46 rfl) rfl ?_
        refine v_getF X (dk D_Mi_useInArgument 47 rfl) F_Mi_37 rfl rfl (hS.lt (by decide)) (hS.2 0 4) ?_
        refine v_iconst (v := -1) X (dk D_Mi_useInArgument 48 rfl) (by decide) ?_
        refine v_invV (As := [.int (-1)]) (st := []) X (k_nestDown l q hS hC hn1) (dk D_Mi_useInArgument 49 rfl) G_Mi_213 K_Ca_nest V_Ca_nest rfl rfl (hS.lt (by decide)) rfl rfl (Nat.le_of_ble_eq_true rfl) (Nat.le_of_ble_eq_true rfl) (Nat.le_of_ble_eq_true rfl) (Nat.le_of_ble_eq_true rfl) (Nat.le_of_ble_eq_true rfl) ?_
        rintro v w1 ⟨rfl, a1, a2⟩
        have S1 := hS.sm a1
        show Vv _ _ _ _ _ _ _ _ _ _ _ _ _ _ _ [] (0, 0, w1.2.2)
        refine v_aload_n X (dk D_Mi_useInArgument 50 rfl) rfl ?_
        refine v_getF X (dk D_Mi_useInArgument 51 rfl) F_Mi_37 rfl rfl (S1.lt (by decide)) (S1.2 0 4) ?_
        refine v_getI X (dk D_Mi_useInArgument 52 rfl) F_Mi_94 rfl rfl (S1.lt (by decide)) ?_
        refine v_if_eq (tgt := 118) X (dk D_Mi_useInArgument 53 rfl) (by decide) (fun c113 => ?_) (fun c113 => ?_)
        · have hm1 : ¬ f.2.2.1 = 1 := fun z => by rw [a2.2.2.2.1, decide_eq_true z] at c113; exact absurd c113 (by decide)
          exact v_weak (la := [some (.ref 0), none]) ⟨rfl, trivial⟩ (tail w1.2.2 (f.1, f.2.1, f.2.2.1 - 1, f.2.2.2) (show MW w1.2.2 fu (sF S ((f.1, f.2.1, f.2.2.1 - 1, f.2.2.2) :: r) false) from (hW.gen a1 (by decide) (by decide) (Or.inr ⟨rfl, by decide, by decide, by decide, by decide⟩) (Or.inr ⟨rfl, by decide, by decide, by decide, by decide⟩) (Or.inl (by rw [decide_eq_false hm1] at a2; exact a2)) (Or.inr ⟨rfl, M25 CS (by decide)⟩) (Or.inr ⟨rfl, by decide⟩) (Or.inr ⟨by decide, by decide⟩) (Or.inr ⟨by decide, by decide⟩))) (a1.mono (RN_of CS (by decide))) (hT.sm a1 (by decide) (by decide)) hne (by rw [uiA, if_pos hk4, if_neg h1, if_neg h2, if_neg c78, if_pos c95, if_neg hm1]))
        · have hcm1 : f.2.2.1 = 1 := Decidable.byContradiction (fun z => c113 (by rw [a2.2.2.2.1, decide_eq_false z]; rfl))
          refine v_iconst (v := 0) X (dk D_Mi_useInArgument 54 rfl) (by decide) ?_
          exact v_iret X hlk hrt (dk D_Mi_useInArgument 55 rfl) (by have hm1 : f.2.2.1 = 1 := hcm1; have a3 : CA w1.2.2 ((f.1, f.2.1, f.2.2.1 - 1, f.2.2.2) :: r) true := (by rw [decide_eq_true hm1] at a2; exact a2); rw [uiA, if_pos hk4, if_neg h1, if_neg h2, if_neg (by rw [c95]; decide), if_pos c95, if_pos hm1]; exact ⟨rfl, a1.mono (RN_of CS (by decide)), (show MW w1.2.2 fu (sF S ((f.1, f.2.1, f.2.2.1 - 1, f.2.2.2) :: r) true) from (hW.gen a1 (by decide) (by decide) (Or.inr ⟨rfl, by decide, by decide, by decide, by decide⟩) (Or.inr ⟨rfl, by decide, by decide, by decide, by decide⟩) (Or.inl a3) (Or.inr ⟨rfl, M25 CS (by decide)⟩) (Or.inr ⟨rfl, by decide⟩) (Or.inr ⟨by decide, by decide⟩) (Or.inr ⟨by decide, by decide⟩)))⟩)
    · refine v_aload_n X (dk D_Mi_useInArgument 38 rfl) rfl ?_
      refine v_getF X (dk D_Mi_useInArgument 39 rfl) F_Mi_37 rfl rfl (hS.lt (by decide)) (hS.2 0 4) ?_
      refine v_iconst (v := 1) X (dk D_Mi_useInArgument 40 rfl) (by decide) ?_
      refine v_invV (As := [.int 1]) (st := []) X (k_nestUp l q hS hC hnb) (dk D_Mi_useInArgument 41 rfl) G_Mi_213 K_Ca_nest V_Ca_nest rfl rfl (hS.lt (by decide)) rfl rfl (Nat.le_of_ble_eq_true rfl) (Nat.le_of_ble_eq_true rfl) (Nat.le_of_ble_eq_true rfl) (Nat.le_of_ble_eq_true rfl) (Nat.le_of_ble_eq_true rfl) ?_
      rintro v w1 ⟨rfl, a1, a2⟩
      show Vv _ _ _ _ _ _ _ _ _ _ _ _ _ _ _ [] (0, 0, w1.2.2)
      refine v_goto (tgt := 118) X (dk D_Mi_useInArgument 42 rfl) (by decide) ?_
      exact v_weak (la := [some (.ref 0), none]) ⟨rfl, trivial⟩ (tail w1.2.2 (f.1, f.2.1, f.2.2.1 + 1, f.2.2.2) (show MW w1.2.2 fu (sF S ((f.1, f.2.1, f.2.2.1 + 1, f.2.2.2) :: r) false) from (hW.gen a1 (by decide) (by decide) (Or.inr ⟨rfl, by decide, by decide, by decide, by decide⟩) (Or.inr ⟨rfl, by decide, by decide, by decide, by decide⟩) (Or.inl a2) (Or.inr ⟨rfl, M25 CS (by decide)⟩) (Or.inr ⟨rfl, by decide⟩) (Or.inr ⟨by decide, by decide⟩) (Or.inr ⟨by decide, by decide⟩))) (a1.mono (RN_of CS (by decide))) (hT.sm a1 (by decide) (by decide)) hne (by rw [uiA, if_pos hk4, if_neg h1, if_neg h2, if_pos c78]))
  have at42 : kd = 4 → ¬ (isSpc (atL tk (nI 0)) = true ∧ ¬ f.2.2.2 = true) → Vv pp l ee (rmT 3 0 0) ss mm aa bb mt cd 2 q (MQ bb (Qw q (fun v w => v = some (.int (uiA kd tk f r S).1) ∧ sm g w.2.2 RN ∧ MW w.2.2 fu (uiA kd tk f r S).2)) aa ss 0 0 (fun a => q.1 ≤ a)) 42 [some (.ref 0), some (.int (atL tk (nI 0)))] [] (0, 0, g) := by
    intro hk4 h1
    refine v_iload_n X (dk D_Mi_useInArgument 20 rfl) rfl ?_
    refine v_bipush (v := 44) X (dk D_Mi_useInArgument 21 rfl) (by decide) ?_
    refine v_icmp_ne (tgt := 75) X (dk D_Mi_useInArgument 22 rfl) (by decide) (fun c45 => ?_) (fun c45 => ?_)
    · exact at75 hk4 h1 (fun z => c45 z.1)
    · refine v_aload_n X (dk D_Mi_useInArgument 23 rfl) rfl ?_
      refine v_getF X (dk D_Mi_useInArgument 24 rfl) F_Mi_37 rfl rfl (hS.lt (by decide)) (hS.2 0 4) ?_
      refine v_invV (As := []) (st := []) X (k_isOutermost l q hS hC) (dk D_Mi_useInArgument 25 rfl) G_Mi_210 K_Ca_isOutermost V_Ca_isOutermost rfl rfl (hS.lt (by decide)) rfl rfl (Nat.le_of_ble_eq_true rfl) (Nat.le_of_ble_eq_true rfl) (Nat.le_of_ble_eq_true rfl) (Nat.le_of_ble_eq_true rfl) (Nat.le_of_ble_eq_true rfl) ?_
      rintro v ws ⟨rfl, hws⟩
      rw [hws]
      show Vv _ _ _ _ _ _ _ _ _ _ _ _ _ _ _ [.int (if f.2.2.1 = 1 then 1 else 0)] (0, 0, g)
      refine v_if_eq (tgt := 75) X (dk D_Mi_useInArgument 26 rfl) (by decide) (fun c55 => ?_) (fun c55 => ?_)
      · exact at75 hk4 h1 (fun z => absurd c55 (by rw [if_pos z.2]; decide))
      · refine v_aload_n X (dk D_Mi_useInArgument 27 rfl) rfl ?_
        refine v_getF X (dk D_Mi_useInArgument 28 rfl) F_Mi_37 rfl rfl (hS.lt (by decide)) (hS.2 0 4) ?_
        refine v_invV (As := []) (st := []) X (k_beginArgument l q hS hC) (dk D_Mi_useInArgument 29 rfl) G_Mi_200 K_Ca_beginArgument V_Ca_beginArgument rfl rfl (hS.lt (by decide)) rfl rfl (Nat.le_of_ble_eq_true rfl) (Nat.le_of_ble_eq_true rfl) (Nat.le_of_ble_eq_true rfl) (Nat.le_of_ble_eq_true rfl) (Nat.le_of_ble_eq_true rfl) ?_
        rintro v w1 ⟨rfl, a1, a2, a3⟩
        show Vv _ _ _ _ _ _ _ _ _ _ _ _ _ _ _ [.int (if na (f :: r) < 8192 then 1 else 0)] (0, 0, w1.2.2)
        refine v_if_eq (tgt := 72) X (dk D_Mi_useInArgument 30 rfl) (by decide) (fun c65 => ?_) (fun c65 => ?_)
        · refine v_bipush (v := 40) X (dk D_Mi_useInArgument 33 rfl) (by decide) ?_
          exact v_iret X hlk hrt (dk D_Mi_useInArgument 34 rfl) (by have hn : ¬ na (f :: r) < 8192 := (fun z => absurd c65 (by rw [if_pos z]; decide)); rw [uiA, if_pos hk4, if_neg h1, if_pos ⟨c45, Decidable.byContradiction (fun z => c55 (if_neg z))⟩, if_neg hn]; exact ⟨rfl, a1.mono (RN_of CS (by decide)), by rw [a3 hn]; exact hW⟩)
        · refine v_iconst (v := 0) X (dk D_Mi_useInArgument 31 rfl) (by decide) ?_
          refine v_goto (tgt := 74) X (dk D_Mi_useInArgument 32 rfl) (by decide) ?_
          exact v_iret X hlk hrt (dk D_Mi_useInArgument 34 rfl) (by have hn : na (f :: r) < 8192 := Decidable.byContradiction (fun z => c65 (if_neg z)); rw [uiA, if_pos hk4, if_neg h1, if_pos ⟨c45, Decidable.byContradiction (fun z => c55 (if_neg z))⟩, if_pos hn]; exact ⟨rfl, a1.mono (RN_of CS (by decide)), (hW.gen a1 (by decide) (by decide) (Or.inr ⟨rfl, by decide, by decide, by decide, by decide⟩) (Or.inr ⟨rfl, by decide, by decide, by decide, by decide⟩) (Or.inl (a2 hn)) (Or.inr ⟨rfl, M25 CS (by decide)⟩) (Or.inr ⟨rfl, by decide⟩) (Or.inr ⟨by decide, by decide⟩) (Or.inr ⟨by decide, by decide⟩))⟩)
  refine v_aload_n X (dk D_Mi_useInArgument 0 rfl) rfl ?_
  refine v_getF X (dk D_Mi_useInArgument 1 rfl) F_Mi_30 rfl rfl (hS.lt (by decide)) (hS.2 0 3) ?_
  refine v_getI X (dk D_Mi_useInArgument 2 rfl) F_Mi_88 rfl rfl (hS.lt (by decide)) ?_
  rw [hkd]
  refine v_iconst (v := 4) X (dk D_Mi_useInArgument 3 rfl) (by decide) ?_
  refine v_icmp_ne (tgt := 118) X (dk D_Mi_useInArgument 4 rfl) (by decide) (fun c8 => ?_) (fun c8 => ?_)
  · exact tail g f hW2 (sm.rf _ _) hT hne (by rw [uiA, if_neg c8])
  · refine v_aload_n X (dk D_Mi_useInArgument 5 rfl) rfl ?_
    refine v_getF X (dk D_Mi_useInArgument 6 rfl) F_Mi_30 rfl rfl (hS.lt (by decide)) (hS.2 0 3) ?_
    refine v_getF X (dk D_Mi_useInArgument 7 rfl) F_Mi_170 rfl rfl (hS.lt (by decide)) (hS.2 7 2) ?_
    refine v_iconst (v := nI 0) X (dk D_Mi_useInArgument 8 rfl) (by decide) ?_
    refine v_invV (As := [.int (nI 0)]) (st := []) X (k_at l q hT) (dk D_Mi_useInArgument 9 rfl) G_Mi_119 K_By_at V_By_at rfl rfl (hS.lt (by decide)) rfl rfl (Nat.le_of_ble_eq_true rfl) (Nat.le_of_ble_eq_true rfl) (Nat.le_of_ble_eq_true rfl) (Nat.le_of_ble_eq_true rfl) (Nat.le_of_ble_eq_true rfl) ?_
    rintro v ws ⟨rfl, hws⟩
    rw [hws]
    show Vv _ _ _ _ _ _ _ _ _ _ _ _ _ _ _ [.int (atL tk (nI 0))] (0, 0, g)
    refine v_istore_n (lb := [some (.ref 0), some (.int (atL tk (nI 0)))]) X (dk D_Mi_useInArgument 10 rfl) (by decide) rfl ?_
    refine v_iload_n X (dk D_Mi_useInArgument 11 rfl) rfl ?_
    refine v_invS (As := [.int (atL tk (nI 0))]) (st := []) X (k_isSpace l q (b := (atL tk (nI 0))) (g := g)) (dk D_Mi_useInArgument 12 rfl) G_Mi_203 K_Mi_isSpace S_Mi_isSpace rfl rfl (Nat.le_of_ble_eq_true rfl) (Nat.le_of_ble_eq_true rfl) (Nat.le_of_ble_eq_true rfl) (Nat.le_of_ble_eq_true rfl) (Nat.le_of_ble_eq_true rfl) ?_
    rintro v ws ⟨rfl, hws⟩
    rw [hws]
    show Vv _ _ _ _ _ _ _ _ _ _ _ _ _ _ _ [.int (if isSpc (atL tk (nI 0)) = true then 1 else 0)] (0, 0, g)
    refine v_if_eq (tgt := 42) X (dk D_Mi_useInArgument 13 rfl) (by decide) (fun c27 => ?_) (fun c27 => ?_)
    · exact at42 c8 (fun z => absurd c27 (by rw [if_pos z.1]; decide))
    · refine v_aload_n X (dk D_Mi_useInArgument 14 rfl) rfl ?_
      refine v_getF X (dk D_Mi_useInArgument 15 rfl) F_Mi_37 rfl rfl (hS.lt (by decide)) (hS.2 0 4) ?_
      refine v_invV (As := []) (st := []) X (k_hasToken l q hS hC hne) (dk D_Mi_useInArgument 16 rfl) G_Mi_207 K_Ca_hasToken V_Ca_hasToken rfl rfl (hS.lt (by decide)) rfl rfl (Nat.le_of_ble_eq_true rfl) (Nat.le_of_ble_eq_true rfl) (Nat.le_of_ble_eq_true rfl) (Nat.le_of_ble_eq_true rfl) (Nat.le_of_ble_eq_true rfl) ?_
      rintro v ws ⟨rfl, hws⟩
      rw [hws]
      show Vv _ _ _ _ _ _ _ _ _ _ _ _ _ _ _ [.int (if f.2.2.2 = true then 1 else 0)] (0, 0, g)
      refine v_if_ne (tgt := 42) X (dk D_Mi_useInArgument 17 rfl) (by decide) (fun c37 => ?_) (fun c37 => ?_)
      · exact at42 c8 (fun z => c37 (if_neg z.2))
      · refine v_iconst (v := 0) X (dk D_Mi_useInArgument 18 rfl) (by decide) ?_
        exact v_iret X hlk hrt (dk D_Mi_useInArgument 19 rfl) (by rw [uiA, if_pos c8, if_pos ⟨Decidable.byContradiction (fun z => c27 (if_neg z)), fun z => absurd c37 (by rw [if_pos z]; decide)⟩]; exact ⟨rfl, sm.rf _ _, hW⟩)
set_option maxHeartbeats 4000000 in
set_option maxRecDepth 100000 in
theorem k_useToken (l : Launch) (q : ev_T) {fu : Nat} {S : Mst} {kd : Int32} {tk : List Int32} {ov : Bool} {g : mu_T} (hW : MW g fu S) (hcm : S.2.2.1.2 = false) (hfo : ∀ f ∈ S.2.2.1.1, f.2.1 ≠ [] ∧ 0 < f.2.2.1 ∧ f.2.2.1 ≤ 1 + f.2.1.flatten.length) (hok : OKP S.2.2.2.1.1) (hT : RB g 12 13 32768 tk ov) (hkd : gI g 7 3 = kd) : Ctr l q M_Mi_useToken 4 [.ref 0] (0, 0, g) (fun v w => v = some (.int (usT kd tk S).1) ∧ sm g w.2.2 RN ∧ MW w.2.2 fu (usT kd tk S).2) := by
  have hS := hW.1
  have hC := hW.2.2.2.2.2.2.1
  refine Ctr.mk (lb := [some (.ref 0)]) (by decide +kernel) (Nat.le_of_ble_eq_true rfl) rfl rfl ?_
  intro pp ee ss mm aa bb mt cd X hrt hlk hnm
  refine v_inv (fun hBB _ => ?_)
  have htb := RB_byte hBB hT
  have at23 : ¬ (kd = 3 ∧ isCl S tk = true) → Vv pp l ee (rmT 4 0 0) ss mm aa bb mt cd 1 q (MQ bb (Qw q (fun v w => v = some (.int (usT kd tk S).1) ∧ sm g w.2.2 RN ∧ MW w.2.2 fu (usT kd tk S).2)) aa ss 0 0 (fun a => q.1 ≤ a)) 23 [some (.ref 0)] [] (0, 0, g) := by
    intro hno
    rcases (show S.2.2.1.1 = [] ∨ ∃ f r, S.2.2.1.1 = f :: r by cases S.2.2.1.1 with | nil => exact Or.inl rfl | cons f r => exact Or.inr ⟨f, r, rfl⟩) with hfs | ⟨f, r, hfs⟩
    · refine v_aload_n X (dk D_Mi_useToken 11 rfl) rfl ?_
      refine v_getF X (dk D_Mi_useToken 12 rfl) F_Mi_37 rfl rfl (hS.lt (by decide)) (hS.2 0 4) ?_
      refine v_getI X (dk D_Mi_useToken 13 rfl) F_Mi_101 rfl rfl (hS.lt (by decide)) ?_
      refine v_if_le (tgt := 38) X (dk D_Mi_useToken 14 rfl) (by decide) (fun _ => ?_) (fun c30 => absurd (by rw [hC.2.1, hfs]; decide) c30)
      refine v_aload_n X (dk D_Mi_useToken 18 rfl) rfl ?_
      refine v_getF X (dk D_Mi_useToken 19 rfl) F_Mi_51 rfl rfl (hS.lt (by decide)) (hS.2 0 6) ?_
      refine v_aload_n X (dk D_Mi_useToken 20 rfl) rfl ?_
      refine v_getF X (dk D_Mi_useToken 21 rfl) F_Mi_30 rfl rfl (hS.lt (by decide)) (hS.2 0 3) ?_
      refine v_getF X (dk D_Mi_useToken 22 rfl) F_Mi_170 rfl rfl (hS.lt (by decide)) (hS.2 7 2) ?_
      refine v_invV (As := [.ref 12]) (st := []) X (k_Di_add l q hS hW.2.1 hW.2.2.2.2.2.2.2.2.1 hT (fun j hj => htb _ (getD_mem hj)) (by decide) (by decide)) (dk D_Mi_useToken 23 rfl) G_Mi_173 K_Di_add V_Di_add rfl rfl (hS.lt (by decide)) rfl rfl (Nat.le_of_ble_eq_true rfl) (Nat.le_of_ble_eq_true rfl) (Nat.le_of_ble_eq_true rfl) (Nat.le_of_ble_eq_true rfl) (Nat.le_of_ble_eq_true rfl) ?_
      rintro v w ⟨rfl, y1, y2⟩
      have W1 : MW w.2.2 fu (dvA tk S).2 := (hW.gen y1 (by decide) (by decide) (Or.inr ⟨rfl, by decide, by decide, by decide, by decide⟩) (Or.inr ⟨rfl, by decide, by decide, by decide, by decide⟩) (Or.inr ⟨rfl, by decide⟩) (Or.inr ⟨rfl, M25 DS (by decide)⟩) (Or.inl y2) (Or.inr ⟨by decide, by decide⟩) (Or.inr ⟨by decide, by decide⟩))
      show Vv _ _ _ _ _ _ _ _ _ _ _ _ _ _ _ [.int (if S.2.2.2.2.1 = -1 ∨ dvt S.2.2.2.2.2 + tk.length ≤ 32768 then 1 else 0)] (0, 0, w.2.2)
      refine v_if_eq (tgt := 59) X (dk D_Mi_useToken 24 rfl) (by decide) (fun c52 => ?_) (fun c52 => ?_)
      · refine v_bipush (v := 40) X (dk D_Mi_useToken 27 rfl) (by decide) ?_
        exact v_iret X hlk hrt (dk D_Mi_useToken 28 rfl) (by rw [usT, if_neg hno, hfs]; exact ⟨by show _ = some (Value.int (if (S.2.2.2.2.1 = -1 ∨ dvt S.2.2.2.2.2 + tk.length ≤ 32768) then 0 else 40)); first | rw [if_neg (show ¬ (S.2.2.2.2.1 = -1 ∨ dvt S.2.2.2.2.2 + tk.length ≤ 32768) from fun z => absurd c52 (by rw [if_pos z]; decide))] | rw [if_pos (show (S.2.2.2.2.1 = -1 ∨ dvt S.2.2.2.2.2 + tk.length ≤ 32768) from Decidable.byContradiction (fun z => c52 (if_neg z)))], y1.mono (RN_of DS (by decide)), W1⟩)
      · refine v_iconst (v := 0) X (dk D_Mi_useToken 25 rfl) (by decide) ?_
        refine v_goto (tgt := 61) X (dk D_Mi_useToken 26 rfl) (by decide) ?_
        exact v_iret X hlk hrt (dk D_Mi_useToken 28 rfl) (by rw [usT, if_neg hno, hfs]; exact ⟨by show _ = some (Value.int (if (S.2.2.2.2.1 = -1 ∨ dvt S.2.2.2.2.2 + tk.length ≤ 32768) then 0 else 40)); first | rw [if_neg (show ¬ (S.2.2.2.2.1 = -1 ∨ dvt S.2.2.2.2.2 + tk.length ≤ 32768) from fun z => absurd c52 (by rw [if_pos z]; decide))] | rw [if_pos (show (S.2.2.2.2.1 = -1 ∨ dvt S.2.2.2.2.2 + tk.length ≤ 32768) from Decidable.byContradiction (fun z => c52 (if_neg z)))], y1.mono (RN_of DS (by decide)), W1⟩)
    · refine v_aload_n X (dk D_Mi_useToken 11 rfl) rfl ?_
      refine v_getF X (dk D_Mi_useToken 12 rfl) F_Mi_37 rfl rfl (hS.lt (by decide)) (hS.2 0 4) ?_
      refine v_getI X (dk D_Mi_useToken 13 rfl) F_Mi_101 rfl rfl (hS.lt (by decide)) ?_
      refine v_if_le (tgt := 38) X (dk D_Mi_useToken 14 rfl) (by decide) (fun c30 => absurd c30 (by rw [hC.2.1, hfs]; exact nI_nle (by simp) (by have := hC.2.2.1; rw [hfs] at this; omega))) (fun _ => ?_)
      refine v_aload_n X (dk D_Mi_useToken 15 rfl) rfl ?_
      refine v_invV (As := []) (st := []) X (k_useInArgument l q hW hcm hfs (hfo f (by rw [hfs]; simp)).1 (hfo f (by rw [hfs]; simp)).2.1 (by have h1 := (hfo f (by rw [hfs]; simp)).2.2; have h2 := hC.1.2.1; rw [hfs, hl, List.length_append, List.length_append] at h2; omega) hT hkd) (dk D_Mi_useToken 16 rfl) G_Mi_167 K_Mi_useInArgument V_Mi_useInArgument rfl rfl (hS.lt (by decide)) rfl rfl (Nat.le_of_ble_eq_true rfl) (Nat.le_of_ble_eq_true rfl) (Nat.le_of_ble_eq_true rfl) (Nat.le_of_ble_eq_true rfl) (Nat.le_of_ble_eq_true rfl) ?_
      rintro v w ⟨rfl, y1, y2⟩
      show Vv _ _ _ _ _ _ _ _ _ _ _ _ _ _ _ [.int _] (0, 0, w.2.2)
      exact v_iret X hlk hrt (dk D_Mi_useToken 17 rfl) (by rw [usT, if_neg hno, hfs]; exact ⟨rfl, y1, y2⟩)
  refine v_aload_n X (dk D_Mi_useToken 0 rfl) rfl ?_
  refine v_getF X (dk D_Mi_useToken 1 rfl) F_Mi_30 rfl rfl (hS.lt (by decide)) (hS.2 0 3) ?_
  refine v_getI X (dk D_Mi_useToken 2 rfl) F_Mi_88 rfl rfl (hS.lt (by decide)) ?_
  rw [hkd]
  refine v_iconst (v := 3) X (dk D_Mi_useToken 3 rfl) (by decide) ?_
  refine v_icmp_ne (tgt := 23) X (dk D_Mi_useToken 4 rfl) (by decide) (fun c8 => ?_) (fun c8 => ?_)
  · exact at23 (fun z => c8 z.1)
  · refine v_aload_n X (dk D_Mi_useToken 5 rfl) rfl ?_
    refine v_invV (As := []) (st := []) X (k_isCalled l q hW hok hT) (dk D_Mi_useToken 6 rfl) G_Mi_160 K_Mi_isCalled V_Mi_isCalled rfl rfl (hS.lt (by decide)) rfl rfl (Nat.le_of_ble_eq_true rfl) (Nat.le_of_ble_eq_true rfl) (Nat.le_of_ble_eq_true rfl) (Nat.le_of_ble_eq_true rfl) (Nat.le_of_ble_eq_true rfl) ?_
    rintro v ws ⟨rfl, hws⟩
    rw [hws]
    show Vv _ _ _ _ _ _ _ _ _ _ _ _ _ _ _ [.int (if isCl S tk = true then 1 else 0)] (0, 0, g)
    refine v_if_eq (tgt := 23) X (dk D_Mi_useToken 7 rfl) (by decide) (fun c15 => ?_) (fun c15 => ?_)
    · exact at23 (fun z => absurd c15 (by rw [if_pos z.2]; decide))
    · refine v_aload_n X (dk D_Mi_useToken 8 rfl) rfl ?_
      refine v_invV (As := []) (st := []) X (k_openCall l q hW hcm (fun f hf => (hfo f hf).1) hT) (dk D_Mi_useToken 9 rfl) G_Mi_164 K_Mi_openCall V_Mi_openCall rfl rfl (hS.lt (by decide)) rfl rfl (Nat.le_of_ble_eq_true rfl) (Nat.le_of_ble_eq_true rfl) (Nat.le_of_ble_eq_true rfl) (Nat.le_of_ble_eq_true rfl) (Nat.le_of_ble_eq_true rfl) ?_
      rintro v w ⟨rfl, y1, y2⟩
      show Vv _ _ _ _ _ _ _ _ _ _ _ _ _ _ _ [.int _] (0, 0, w.2.2)
      exact v_iret X hlk hrt (dk D_Mi_useToken 10 rfl) (by rw [usT, if_pos ⟨c8, Decidable.byContradiction (fun z => c15 (if_neg z))⟩]; exact ⟨rfl, y1, y2⟩)
