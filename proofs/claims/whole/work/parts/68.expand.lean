/-! the text of a meaning with its marks -/
/-- what stands for a mark behind $ -/
def mrk (f : Fr) (op cl : List Int32) (m : Int32) : Option (List Int32) := if m = 48 then some f.1 else if isDig m = true then some (f.2.1.getD (m - 49).toNatClampNeg []) else if m = 35 then some (decB (nI f.2.1.length)) else if m = 42 then some (jn (qtd false op cl) f.2.1) else if m = 64 then some (jn (qtd true op cl) f.2.1) else none
def xpd (mk : Int32 → Option (List Int32)) : List Int32 → List Int32
  | [] => []
  | [b] => [b]
  | b :: m :: t => if b &&& 255 = 36 then (match mk (m &&& 255) with
    | some s => s ++ xpd mk t
    | none => b :: xpd mk (m :: t)) else b :: xpd mk (m :: t)
theorem dig_of {m : Int32} (h : isDig m = true) (h0 : ¬ m = 48) : ∃ j, j < 9 ∧ m - 49 = nI j := by
  obtain ⟨h1, h2⟩ := of_decide_eq_true h
  obtain ⟨j, hj, rfl⟩ := nI_of2 (M := 57) (n := 57) rfl (fun z => h1 (Int32.lt_trans z (by decide))) (Int32.not_lt.mp h2)
  have h3 : 48 ≤ j := Decidable.byContradiction (fun z => h1 (nI_lt (b := 48) (by omega) (by decide)))
  have h4 : j ≠ 48 := fun z => h0 (by rw [z]; rfl)
  exact ⟨j - 49, by omega, pk_sub (b := 49) (by omega)⟩
theorem nm_slice {f : Fr} {r : List Fr} : ((hl (f :: r)).drop (hl r).length).take f.1.length = f.1 := by
  rw [hl, List.drop_left, List.take_left]
theorem nm_le {f : Fr} {r : List Fr} : (hl r).length + f.1.length ≤ (hl (f :: r)).length := by
  rw [hl, List.length_append, List.length_append]; omega
set_option maxHeartbeats 4000000 in
set_option maxRecDepth 100000 in
theorem k_addMarked (l : Launch) (q : ev_T) {m : Int32} {f : Fr} {r : List Fr} {cm : Bool} {F op cl : List Int32} {oo oc : Bool} {g : mu_T} (hS : Shp g) (hC : CA g (f :: r) cm) (hfb : ∀ x ∈ hl (f :: r), isByte x) (hR : RE g F) (hO : RB g 8 9 4 op oo) (hQ : RB g 10 11 4 cl oc) (hob : ∀ x ∈ op, isByte x) (hcb : ∀ x ∈ cl, isByte x) : Ctr l q M_Mi_addMarked 4 [.ref 0, .int m] (0, 0, g) (fun v w => v = some (.int (if (mrk f op cl m).isSome = true then 1 else 0)) ∧ sm g w.2.2 [5, 6] ∧ RE w.2.2 (F ++ (mrk f op cl m).getD [])) := by

  refine Ctr.mk (lb := [some (.ref 0), some (.int m)]) (by decide +kernel) (Nat.le_of_ble_eq_true rfl) rfl rfl ?_
  intro pp ee ss mm aa bb mt cd X hrt hlk hnm
  refine v_iload_n X (dk D_Mi_addMarked 0 rfl) rfl ?_
  refine v_bipush (v := 48) X (dk D_Mi_addMarked 1 rfl) (by decide) ?_
  refine v_icmp_ne (tgt := 37) X (dk D_Mi_addMarked 2 rfl) (by decide) (fun c3 => ?_) (fun c3 => ?_)
  · refine v_iload_n X (dk D_Mi_addMarked 16 rfl) rfl ?_
    refine v_invS (As := [.int m]) (st := []) X (k_isDigit l q (b := m) (g := g)) (dk D_Mi_addMarked 17 rfl) G_Mi_267 K_Mi_isDigit S_Mi_isDigit rfl rfl (Nat.le_of_ble_eq_true rfl) (Nat.le_of_ble_eq_true rfl) (Nat.le_of_ble_eq_true rfl) (Nat.le_of_ble_eq_true rfl) (Nat.le_of_ble_eq_true rfl) ?_
    rintro v ws ⟨rfl, hws⟩
    rw [hws]
    show Vv _ _ _ _ _ _ _ _ _ _ _ _ _ _ _ [.int (if isDig m = true then 1 else 0)] (0, 0, g)
    refine v_if_eq (tgt := 55) X (dk D_Mi_addMarked 18 rfl) (by decide) (fun c41 => ?_) (fun c41 => ?_)
    · refine v_iload_n X (dk D_Mi_addMarked 25 rfl) rfl ?_
      refine v_bipush (v := 35) X (dk D_Mi_addMarked 26 rfl) (by decide) ?_
      refine v_icmp_ne (tgt := 78) X (dk D_Mi_addMarked 27 rfl) (by decide) (fun c58 => ?_) (fun c58 => ?_)
      · refine v_iload_n X (dk D_Mi_addMarked 35 rfl) rfl ?_
        refine v_bipush (v := 42) X (dk D_Mi_addMarked 36 rfl) (by decide) ?_
        refine v_icmp_eq (tgt := 90) X (dk D_Mi_addMarked 37 rfl) (by decide) (fun c81 => ?_) (fun c81 => ?_)
        · have h42 : m = 42 := c81
          refine v_aload_n X (dk D_Mi_addMarked 41 rfl) rfl ?_
          refine v_iconst (v := nI 0) X (dk D_Mi_addMarked 42 rfl) (by decide) ?_
          refine v_iload_n X (dk D_Mi_addMarked 43 rfl) rfl ?_
          refine v_bipush (v := 64) X (dk D_Mi_addMarked 44 rfl) (by decide) ?_
          refine v_icmp_ne (tgt := 102) X (dk D_Mi_addMarked 45 rfl) (by decide) (fun _ => ?_) (fun c95 => absurd c95 (by rw [h42]; decide))
          refine v_iconst (v := 0) X (dk D_Mi_addMarked 48 rfl) (by decide) ?_
          refine v_invV (As := [.int (nI 0), .int 0]) (st := []) X (k_addArguments l q (first := 0) (qd := false) hS hC hfb hR hO hQ hob hcb (by decide)) (dk D_Mi_addMarked 49 rfl) G_Mi_279 K_Mi_addArguments V_Mi_addArguments rfl rfl (hS.lt (by decide)) rfl rfl (Nat.le_of_ble_eq_true rfl) (Nat.le_of_ble_eq_true rfl) (Nat.le_of_ble_eq_true rfl) (Nat.le_of_ble_eq_true rfl) (Nat.le_of_ble_eq_true rfl) ?_
          rintro v w ⟨rfl, y1, y2⟩
          rw [List.drop_zero] at y2
          show Vv _ _ _ _ _ _ _ _ _ _ _ _ _ _ _ [] (0, 0, w.2.2)
          refine v_goto (tgt := 111) X (dk D_Mi_addMarked 50 rfl) (by decide) ?_
          refine v_iconst (v := 1) X (dk D_Mi_addMarked 53 rfl) (by decide) ?_
          exact v_zret X hlk hrt rfl (dk D_Mi_addMarked 54 rfl) ⟨by rw [mrk, if_neg c3, if_neg (show ¬ isDig m = true from fun e => absurd c41 (by rw [if_pos e]; decide)), if_neg c58, if_pos h42]; rfl, y1, by rw [mrk, if_neg c3, if_neg (show ¬ isDig m = true from fun e => absurd c41 (by rw [if_pos e]; decide)), if_neg c58, if_pos h42]; exact y2⟩
        · refine v_iload_n X (dk D_Mi_addMarked 38 rfl) rfl ?_
          refine v_bipush (v := 64) X (dk D_Mi_addMarked 39 rfl) (by decide) ?_
          refine v_icmp_ne (tgt := 109) X (dk D_Mi_addMarked 40 rfl) (by decide) (fun c87 => ?_) (fun c87 => ?_)
          · refine v_iconst (v := 0) X (dk D_Mi_addMarked 51 rfl) (by decide) ?_
            exact v_zret X hlk hrt rfl (dk D_Mi_addMarked 52 rfl) (by first | exact ⟨by rw [mrk, if_pos c3]; rfl, y1, by rw [mrk, if_pos c3]; exact y2⟩ | exact ⟨by rw [mrk, if_neg c3, if_pos (show isDig m = true from Decidable.byContradiction (fun e => c41 (if_neg e)))]; rfl, y1, by rw [mrk, if_neg c3, if_pos (show isDig m = true from Decidable.byContradiction (fun e => c41 (if_neg e))), ej, nI_clamp (by omega)]; exact y2⟩ | exact ⟨by rw [mrk, if_neg c3, if_neg (show ¬ isDig m = true from fun e => absurd c41 (by rw [if_pos e]; decide)), if_pos c58]; rfl, y1, by rw [mrk, if_neg c3, if_neg (show ¬ isDig m = true from fun e => absurd c41 (by rw [if_pos e]; decide)), if_pos c58]; exact y2⟩ | exact ⟨by rw [mrk, if_neg c3, if_neg (show ¬ isDig m = true from fun e => absurd c41 (by rw [if_pos e]; decide)), if_neg c58, if_neg c81, if_neg c87]; rfl, sm.rf _ _, by rw [mrk, if_neg c3, if_neg (show ¬ isDig m = true from fun e => absurd c41 (by rw [if_pos e]; decide)), if_neg c58, if_neg c81, if_neg c87, Option.getD_none, List.append_nil]; exact hR⟩)
          · have h64 : m = 64 := c87
            refine v_aload_n X (dk D_Mi_addMarked 41 rfl) rfl ?_
            refine v_iconst (v := nI 0) X (dk D_Mi_addMarked 42 rfl) (by decide) ?_
            refine v_iload_n X (dk D_Mi_addMarked 43 rfl) rfl ?_
            refine v_bipush (v := 64) X (dk D_Mi_addMarked 44 rfl) (by decide) ?_
            refine v_icmp_ne (tgt := 102) X (dk D_Mi_addMarked 45 rfl) (by decide) (fun c95 => absurd h64 c95) (fun _ => ?_)
            refine v_iconst (v := 1) X (dk D_Mi_addMarked 46 rfl) (by decide) ?_
            refine v_goto (tgt := 103) X (dk D_Mi_addMarked 47 rfl) (by decide) ?_
            refine v_invV (As := [.int (nI 0), .int 1]) (st := []) X (k_addArguments l q (first := 0) (qd := true) hS hC hfb hR hO hQ hob hcb (by decide)) (dk D_Mi_addMarked 49 rfl) G_Mi_279 K_Mi_addArguments V_Mi_addArguments rfl rfl (hS.lt (by decide)) rfl rfl (Nat.le_of_ble_eq_true rfl) (Nat.le_of_ble_eq_true rfl) (Nat.le_of_ble_eq_true rfl) (Nat.le_of_ble_eq_true rfl) (Nat.le_of_ble_eq_true rfl) ?_
            rintro v w ⟨rfl, y1, y2⟩
            rw [List.drop_zero] at y2
            show Vv _ _ _ _ _ _ _ _ _ _ _ _ _ _ _ [] (0, 0, w.2.2)
            refine v_goto (tgt := 111) X (dk D_Mi_addMarked 50 rfl) (by decide) ?_
            refine v_iconst (v := 1) X (dk D_Mi_addMarked 53 rfl) (by decide) ?_
            exact v_zret X hlk hrt rfl (dk D_Mi_addMarked 54 rfl) ⟨by rw [mrk, if_neg c3, if_neg (show ¬ isDig m = true from fun e => absurd c41 (by rw [if_pos e]; decide)), if_neg c58, if_neg c81, if_pos h64]; rfl, y1, by rw [mrk, if_neg c3, if_neg (show ¬ isDig m = true from fun e => absurd c41 (by rw [if_pos e]; decide)), if_neg c58, if_neg c81, if_pos h64]; exact y2⟩
      · refine v_aload_n X (dk D_Mi_addMarked 28 rfl) rfl ?_
        refine v_getF X (dk D_Mi_addMarked 29 rfl) F_Mi_24 rfl rfl (hS.lt (by decide)) (hS.2 0 2) ?_
        refine v_aload_n X (dk D_Mi_addMarked 30 rfl) rfl ?_
        refine v_getF X (dk D_Mi_addMarked 31 rfl) F_Mi_37 rfl rfl (hS.lt (by decide)) (hS.2 0 4) ?_
        refine v_invV (As := []) (st := [.ref 5]) X (k_arguments l q hS hC) (dk D_Mi_addMarked 32 rfl) G_Mi_273 K_Ca_arguments V_Ca_arguments rfl rfl (hS.lt (by decide)) rfl rfl (Nat.le_of_ble_eq_true rfl) (Nat.le_of_ble_eq_true rfl) (Nat.le_of_ble_eq_true rfl) (Nat.le_of_ble_eq_true rfl) (Nat.le_of_ble_eq_true rfl) ?_
        rintro v ws ⟨rfl, hws⟩
        rw [hws]
        show Vv _ _ _ _ _ _ _ _ _ _ _ _ _ _ _ [.int (nI f.2.1.length), .ref 5] (0, 0, g)
        refine v_invV (As := [.int (nI f.2.1.length)]) (st := []) X (kr_addNumber l q hR) (dk D_Mi_addMarked 33 rfl) G_Mi_276 K_By_addNumber V_By_addNumber rfl rfl (hS.lt (by decide)) rfl rfl (Nat.le_of_ble_eq_true rfl) (Nat.le_of_ble_eq_true rfl) (Nat.le_of_ble_eq_true rfl) (Nat.le_of_ble_eq_true rfl) (Nat.le_of_ble_eq_true rfl) ?_
        rintro v w ⟨rfl, y1, y2⟩
        show Vv _ _ _ _ _ _ _ _ _ _ _ _ _ _ _ [] (0, 0, w.2.2)
        refine v_goto (tgt := 111) X (dk D_Mi_addMarked 34 rfl) (by decide) ?_
        refine v_iconst (v := 1) X (dk D_Mi_addMarked 53 rfl) (by decide) ?_
        exact v_zret X hlk hrt rfl (dk D_Mi_addMarked 54 rfl) (by first | exact ⟨by rw [mrk, if_pos c3]; rfl, y1, by rw [mrk, if_pos c3]; exact y2⟩ | exact ⟨by rw [mrk, if_neg c3, if_pos (show isDig m = true from Decidable.byContradiction (fun e => c41 (if_neg e)))]; rfl, y1, by rw [mrk, if_neg c3, if_pos (show isDig m = true from Decidable.byContradiction (fun e => c41 (if_neg e))), ej, nI_clamp (by omega)]; exact y2⟩ | exact ⟨by rw [mrk, if_neg c3, if_neg (show ¬ isDig m = true from fun e => absurd c41 (by rw [if_pos e]; decide)), if_pos c58]; rfl, y1, by rw [mrk, if_neg c3, if_neg (show ¬ isDig m = true from fun e => absurd c41 (by rw [if_pos e]; decide)), if_pos c58]; exact y2⟩ | exact ⟨by rw [mrk, if_neg c3, if_neg (show ¬ isDig m = true from fun e => absurd c41 (by rw [if_pos e]; decide)), if_neg c58, if_neg c81, if_neg c87]; rfl, sm.rf _ _, by rw [mrk, if_neg c3, if_neg (show ¬ isDig m = true from fun e => absurd c41 (by rw [if_pos e]; decide)), if_neg c58, if_neg c81, if_neg c87, Option.getD_none, List.append_nil]; exact hR⟩)
    · refine v_aload_n X (dk D_Mi_addMarked 19 rfl) rfl ?_
      refine v_iload_n X (dk D_Mi_addMarked 20 rfl) rfl ?_
      refine v_bipush (v := 49) X (dk D_Mi_addMarked 21 rfl) (by decide) ?_
      refine v_isub X (dk D_Mi_addMarked 22 rfl) ?_
      obtain ⟨j, hj, ej⟩ := dig_of (Decidable.byContradiction (fun e => c41 (if_neg e))) c3
      rw [ej]
      refine v_invV (As := [.int (nI j)]) (st := []) X (k_addArgument l q (i := j) hS hC hfb hR (by omega)) (dk D_Mi_addMarked 23 rfl) G_Mi_270 K_Mi_addArgument V_Mi_addArgument rfl rfl (hS.lt (by decide)) rfl rfl (Nat.le_of_ble_eq_true rfl) (Nat.le_of_ble_eq_true rfl) (Nat.le_of_ble_eq_true rfl) (Nat.le_of_ble_eq_true rfl) (Nat.le_of_ble_eq_true rfl) ?_
      rintro v w ⟨rfl, y1, y2⟩
      show Vv _ _ _ _ _ _ _ _ _ _ _ _ _ _ _ [] (0, 0, w.2.2)
      refine v_goto (tgt := 111) X (dk D_Mi_addMarked 24 rfl) (by decide) ?_
      refine v_iconst (v := 1) X (dk D_Mi_addMarked 53 rfl) (by decide) ?_
      exact v_zret X hlk hrt rfl (dk D_Mi_addMarked 54 rfl) (by first | exact ⟨by rw [mrk, if_pos c3]; rfl, y1, by rw [mrk, if_pos c3]; exact y2⟩ | exact ⟨by rw [mrk, if_neg c3, if_pos (show isDig m = true from Decidable.byContradiction (fun e => c41 (if_neg e)))]; rfl, y1, by rw [mrk, if_neg c3, if_pos (show isDig m = true from Decidable.byContradiction (fun e => c41 (if_neg e))), ej, nI_clamp (by omega)]; exact y2⟩ | exact ⟨by rw [mrk, if_neg c3, if_neg (show ¬ isDig m = true from fun e => absurd c41 (by rw [if_pos e]; decide)), if_pos c58]; rfl, y1, by rw [mrk, if_neg c3, if_neg (show ¬ isDig m = true from fun e => absurd c41 (by rw [if_pos e]; decide)), if_pos c58]; exact y2⟩ | exact ⟨by rw [mrk, if_neg c3, if_neg (show ¬ isDig m = true from fun e => absurd c41 (by rw [if_pos e]; decide)), if_neg c58, if_neg c81, if_neg c87]; rfl, sm.rf _ _, by rw [mrk, if_neg c3, if_neg (show ¬ isDig m = true from fun e => absurd c41 (by rw [if_pos e]; decide)), if_neg c58, if_neg c81, if_neg c87, Option.getD_none, List.append_nil]; exact hR⟩)
  · refine v_aload_n X (dk D_Mi_addMarked 3 rfl) rfl ?_
    refine v_getF X (dk D_Mi_addMarked 4 rfl) F_Mi_24 rfl rfl (hS.lt (by decide)) (hS.2 0 2) ?_
    refine v_aload_n X (dk D_Mi_addMarked 5 rfl) rfl ?_
    refine v_getF X (dk D_Mi_addMarked 6 rfl) F_Mi_37 rfl rfl (hS.lt (by decide)) (hS.2 0 4) ?_
    refine v_getF X (dk D_Mi_addMarked 7 rfl) F_Mi_219 rfl rfl (hS.lt (by decide)) (hS.2 17 0) ?_
    refine v_aload_n X (dk D_Mi_addMarked 8 rfl) rfl ?_
    refine v_getF X (dk D_Mi_addMarked 9 rfl) F_Mi_37 rfl rfl (hS.lt (by decide)) (hS.2 0 4) ?_
    refine v_invV (As := []) (st := [.ref 18, .ref 5]) X (k_nameStart l q hS hC) (dk D_Mi_addMarked 10 rfl) G_Mi_222 K_Ca_nameStart V_Ca_nameStart rfl rfl (hS.lt (by decide)) rfl rfl (Nat.le_of_ble_eq_true rfl) (Nat.le_of_ble_eq_true rfl) (Nat.le_of_ble_eq_true rfl) (Nat.le_of_ble_eq_true rfl) (Nat.le_of_ble_eq_true rfl) ?_
    rintro v ws ⟨rfl, hws⟩
    rw [hws]
    show Vv _ _ _ _ _ _ _ _ _ _ _ _ _ _ _ [.int (nI (hl r).length), .ref 18, .ref 5] (0, 0, g)
    refine v_aload_n X (dk D_Mi_addMarked 11 rfl) rfl ?_
    refine v_getF X (dk D_Mi_addMarked 12 rfl) F_Mi_37 rfl rfl (hS.lt (by decide)) (hS.2 0 4) ?_
    refine v_invV (As := []) (st := [.int (nI (hl r).length), .ref 18, .ref 5]) X (k_nameLength l q hS hC) (dk D_Mi_addMarked 13 rfl) G_Mi_225 K_Ca_nameLength V_Ca_nameLength rfl rfl (hS.lt (by decide)) rfl rfl (Nat.le_of_ble_eq_true rfl) (Nat.le_of_ble_eq_true rfl) (Nat.le_of_ble_eq_true rfl) (Nat.le_of_ble_eq_true rfl) (Nat.le_of_ble_eq_true rfl) ?_
    rintro v ws ⟨rfl, hws⟩
    rw [hws]
    show Vv _ _ _ _ _ _ _ _ _ _ _ _ _ _ _ [.int (nI f.1.length), .int (nI (hl r).length), .ref 18, .ref 5] (0, 0, g)
    refine v_invV (As := [.ref 18, .int (nI (hl r).length), .int (nI f.1.length)]) (st := []) X (kr_addPart l q hR hC.1 nm_le (by decide) hfb) (dk D_Mi_addMarked 14 rfl) G_Mi_73 K_By_addPart V_By_addPart rfl rfl (hS.lt (by decide)) rfl rfl (Nat.le_of_ble_eq_true rfl) (Nat.le_of_ble_eq_true rfl) (Nat.le_of_ble_eq_true rfl) (Nat.le_of_ble_eq_true rfl) (Nat.le_of_ble_eq_true rfl) ?_
    rintro v w ⟨rfl, y1, y2⟩
    rw [nm_slice] at y2
    show Vv _ _ _ _ _ _ _ _ _ _ _ _ _ _ _ [] (0, 0, w.2.2)
    refine v_goto (tgt := 111) X (dk D_Mi_addMarked 15 rfl) (by decide) ?_
    refine v_iconst (v := 1) X (dk D_Mi_addMarked 53 rfl) (by decide) ?_
    exact v_zret X hlk hrt rfl (dk D_Mi_addMarked 54 rfl) (by first | exact ⟨by rw [mrk, if_pos c3]; rfl, y1, by rw [mrk, if_pos c3]; exact y2⟩ | exact ⟨by rw [mrk, if_neg c3, if_pos (show isDig m = true from Decidable.byContradiction (fun e => c41 (if_neg e)))]; rfl, y1, by rw [mrk, if_neg c3, if_pos (show isDig m = true from Decidable.byContradiction (fun e => c41 (if_neg e))), ej, nI_clamp (by omega)]; exact y2⟩ | exact ⟨by rw [mrk, if_neg c3, if_neg (show ¬ isDig m = true from fun e => absurd c41 (by rw [if_pos e]; decide)), if_pos c58]; rfl, y1, by rw [mrk, if_neg c3, if_neg (show ¬ isDig m = true from fun e => absurd c41 (by rw [if_pos e]; decide)), if_pos c58]; exact y2⟩ | exact ⟨by rw [mrk, if_neg c3, if_neg (show ¬ isDig m = true from fun e => absurd c41 (by rw [if_pos e]; decide)), if_neg c58, if_neg c81, if_neg c87]; rfl, sm.rf _ _, by rw [mrk, if_neg c3, if_neg (show ¬ isDig m = true from fun e => absurd c41 (by rw [if_pos e]; decide)), if_neg c58, if_neg c81, if_neg c87, Option.getD_none, List.append_nil]; exact hR⟩)
theorem dr_cons {T : List Int32} {k : Nat} (h : k < T.length) : T.drop k = T.getD k 0 :: T.drop (k + 1) := by
  rw [List.drop_eq_getElem_cons h, List.getD_eq_getElem?_getD, List.getElem?_eq_getElem h]; rfl
theorem xpd_ne {mk : Int32 → Option (List Int32)} {b : Int32} {t : List Int32} (h : ¬ b &&& 255 = 36) : xpd mk (b :: t) = b :: xpd mk t := by
  cases t with
  | nil => rw [xpd, xpd]
  | cons m t => rw [xpd, if_neg h]
set_option maxHeartbeats 4000000 in
set_option maxRecDepth 100000 in
theorem k_expand (l : Launch) (q : ev_T) {i : Nat} {ps : List Nat} {f : Fr} {r : List Fr} {cm : Bool} {F op cl : List Int32} {oo oc : Bool} {g : mu_T} (hS : Shp g) (hC : CA g (f :: r) cm) (hfb : ∀ x ∈ hl (f :: r), isByte x) (hR : RE g F) (hO : RB g 8 9 4 op oo) (hQ : RB g 10 11 4 cl oc) (hob : ∀ x ∈ op, isByte x) (hcb : ∀ x ∈ cl, isByte x) (hi : i < 317) (hch : CH g 28 (33 + 3 * i) ps) (hps : ∀ p ∈ ps, p < 16512) (hpl : ps.length ≤ 16512) (hTb : ∀ x ∈ (bys g 27 ps), isByte x) : Ctr l q M_Mi_expand 5 [.ref 0, .ref (33 + 3 * i)] (0, 0, g) (fun v w => v = none ∧ sm g w.2.2 [5, 6] ∧ RE w.2.2 (F ++ xpd (mrk f op cl) (bys g 27 ps))) := by
  have hbl : (bys g 27 ps).length = ps.length := by rw [bys, List.length_map]
  refine Ctr.mk (lb := [some (.ref 0), some (.ref (33 + 3 * i)), none, none, none, none]) (by decide +kernel) (Nat.le_of_ble_eq_true rfl) rfl rfl ?_
  intro pp ee ss mm aa bb mt cd X hrt hlk hnm
  have loop : ∀ (d k : Nat) (x : Int32) (u : mu_T) (G : List Int32), (ps.length ≤ k + d ∧ k ≤ ps.length) → (k < ps.length → x = nI (ps.getD k 0)) → sm g u [5, 6] → RE u G → F ++ xpd (mrk f op cl) (bys g 27 ps) = G ++ xpd (mrk f op cl) ((bys g 27 ps).drop k) → Vv pp l ee (rmT 5 0 0) ss mm aa bb mt cd 6 q (MQ bb (Qw q (fun v w => v = none ∧ sm g w.2.2 [5, 6] ∧ RE w.2.2 (F ++ xpd (mrk f op cl) (bys g 27 ps)))) aa ss 0 0 (fun a => q.1 ≤ a)) 16 [some (.ref 0), some (.ref (33 + 3 * i)), some (.ref 26), some (.int x), some (.int (nI k)), none] [] (0, 0, u) := by
    intro d
    induction d with
    | zero =>
      intro k x u G hkd hxk zu hRu hG
      have hSu := hS.sm zu
      have hCu := hC.sm zu CS_R
      refine v_iload X (dk D_Mi_expand 9 rfl) rfl ?_
      refine v_aload_n X (dk D_Mi_expand 10 rfl) rfl ?_
      refine v_getI X (dk D_Mi_expand 11 rfl) F_Mi_254 rfl (kdM i hi).2.2 (hSu.lt (by omega)) ?_
      rw [show gI u (33 + 3 * i) 2 = nI ps.length from (zu.I (by simp; omega) 2).trans hch.2.1]
      refine v_icmp_ge (tgt := 105) X (dk D_Mi_expand 12 rfl) (by decide) (fun _ => ?_) (fun c22 => absurd (nI_le (by omega) (by omega)) c22)
      exact v_vret X hlk hrt (dk D_Mi_expand 52 rfl) ⟨rfl, zu, by rw [hG, List.drop_eq_nil_of_le (by rw [hbl]; omega), xpd, List.append_nil]; exact hRu⟩
    | succ d ih =>
      intro k x u G hkd hxk zu hRu hG
      have hSu := hS.sm zu
      have hCu := hC.sm zu CS_R
      by_cases hkl : ps.length ≤ k
      · refine v_iload X (dk D_Mi_expand 9 rfl) rfl ?_
        refine v_aload_n X (dk D_Mi_expand 10 rfl) rfl ?_
        refine v_getI X (dk D_Mi_expand 11 rfl) F_Mi_254 rfl (kdM i hi).2.2 (hSu.lt (by omega)) ?_
        rw [show gI u (33 + 3 * i) 2 = nI ps.length from (zu.I (by simp; omega) 2).trans hch.2.1]
        refine v_icmp_ge (tgt := 105) X (dk D_Mi_expand 12 rfl) (by decide) (fun _ => ?_) (fun c22 => absurd (nI_le (by omega) (by omega)) c22)
        exact v_vret X hlk hrt (dk D_Mi_expand 52 rfl) ⟨rfl, zu, by rw [hG, List.drop_eq_nil_of_le (by rw [hbl]; omega), xpd, List.append_nil]; exact hRu⟩
      · have hkl : k < ps.length := by omega
        have hx : x = nI (ps.getD k 0) := hxk hkl
        have hpN : ps.getD k 0 < 16512 := hps _ (getD_mem' hkl)
        have hbk : isByte ((bys g 27 ps).getD k 0) := hTb _ (getD_mem (by rw [hbl]; exact hkl))
        have hdk : (bys g 27 ps).drop k = ((bys g 27 ps).getD k 0) :: (bys g 27 ps).drop (k + 1) := dr_cons (by rw [hbl]; exact hkl)
        have hat : (if ¬ x < 0 ∧ ¬ nI 16512 ≤ x then gI u 27 x.toNatClampNeg &&& 255 else -1) = ((bys g 27 ps).getD k 0) &&& 255 := by rw [bys_getD hkl, hx, if_pos ⟨nI_pos (by omega), nI_ge hpN (by decide)⟩, nI_clamp (by omega), zu.I (by decide)]
        have hbe : (if ¬ x < 0 ∧ ¬ nI 16512 ≤ x then gI u 28 x.toNatClampNeg else -1) = (gI g 28 (ps.getD k 0)) := by rw [hx, if_pos ⟨nI_pos (by omega), nI_ge hpN (by decide)⟩, nI_clamp (by omega), zu.I (by decide)]
        refine v_iload X (dk D_Mi_expand 9 rfl) rfl ?_
        refine v_aload_n X (dk D_Mi_expand 10 rfl) rfl ?_
        refine v_getI X (dk D_Mi_expand 11 rfl) F_Mi_254 rfl (kdM i hi).2.2 (hSu.lt (by omega)) ?_
        rw [show gI u (33 + 3 * i) 2 = nI ps.length from (zu.I (by simp; omega) 2).trans hch.2.1]
        refine v_icmp_ge (tgt := 105) X (dk D_Mi_expand 12 rfl) (by decide) (fun c22 => absurd c22 (nI_ge (by omega) (by omega))) (fun _ => ?_)
        refine v_aload_n X (dk D_Mi_expand 13 rfl) rfl ?_
        refine v_getF X (dk D_Mi_expand 14 rfl) F_Mi_24 rfl rfl (hSu.lt (by decide)) (hSu.2 0 2) ?_
        refine v_getI X (dk D_Mi_expand 15 rfl) F_Mi_255 rfl rfl (hSu.lt (by decide)) ?_
        refine v_if_ne (tgt := 105) X (dk D_Mi_expand 16 rfl) (by decide) (fun c32 => ?_) (fun c32 => ?_)
        · exact v_vret X hlk hrt (dk D_Mi_expand 52 rfl) ⟨rfl, zu, by rw [hG]; exact RE_over _ hRu c32⟩
        · refine v_aload_n X (dk D_Mi_expand 17 rfl) rfl ?_
          refine v_iload_n X (dk D_Mi_expand 18 rfl) rfl ?_
          refine v_invV (As := [.int x]) (st := []) X (c_Ce_at l q (i := x) (isC_M hSu)) (dk D_Mi_expand 19 rfl) G_Mi_258 K_Ce_at V_Ce_at rfl rfl (hSu.lt (by decide)) rfl rfl (Nat.le_of_ble_eq_true rfl) (Nat.le_of_ble_eq_true rfl) (Nat.le_of_ble_eq_true rfl) (Nat.le_of_ble_eq_true rfl) (Nat.le_of_ble_eq_true rfl) ?_
          rintro v wa ⟨rfl, hwa⟩
          rw [hwa, hat]
          show Vv _ _ _ _ _ _ _ _ _ _ _ _ _ _ _ [.int (((bys g 27 ps).getD k 0) &&& 255)] (0, 0, u)
          refine v_istore (lb := [some (.ref 0), some (.ref (33 + 3 * i)), some (.ref 26), some (.int x), some (.int (nI k)), some (.int (((bys g 27 ps).getD k 0) &&& 255))]) X (dk D_Mi_expand 20 rfl) (by decide) rfl ?_
          refine v_aload_n X (dk D_Mi_expand 21 rfl) rfl ?_
          refine v_iload_n X (dk D_Mi_expand 22 rfl) rfl ?_
          refine v_invV (As := [.int x]) (st := []) X (c_Ce_behind l q (i := x) (isC_M hSu)) (dk D_Mi_expand 23 rfl) G_Mi_261 K_Ce_behind V_Ce_behind rfl rfl (hSu.lt (by decide)) rfl rfl (Nat.le_of_ble_eq_true rfl) (Nat.le_of_ble_eq_true rfl) (Nat.le_of_ble_eq_true rfl) (Nat.le_of_ble_eq_true rfl) (Nat.le_of_ble_eq_true rfl) ?_
          rintro v wa ⟨rfl, hwa⟩
          rw [hwa, hbe]
          show Vv _ _ _ _ _ _ _ _ _ _ _ _ _ _ _ [.int (gI g 28 (ps.getD k 0))] (0, 0, u)
          refine v_istore_n (lb := [some (.ref 0), some (.ref (33 + 3 * i)), some (.ref 26), some (.int (gI g 28 (ps.getD k 0))), some (.int (nI k)), some (.int (((bys g 27 ps).getD k 0) &&& 255))]) X (dk D_Mi_expand 24 rfl) (by decide) rfl ?_
          refine v_iload X (dk D_Mi_expand 25 rfl) rfl ?_
          refine v_bipush (v := 36) X (dk D_Mi_expand 26 rfl) (by decide) ?_
          refine v_icmp_ne (tgt := 90) X (dk D_Mi_expand 27 rfl) (by decide) (fun c52 => ?_) (fun c52 => ?_)
          · refine v_aload_n X (dk D_Mi_expand 46 rfl) rfl ?_
            refine v_getF X (dk D_Mi_expand 47 rfl) F_Mi_24 rfl rfl (hSu.lt (by decide)) (hSu.2 0 2) ?_
            refine v_iload X (dk D_Mi_expand 48 rfl) rfl ?_
            refine v_invV (As := [.int (((bys g 27 ps).getD k 0) &&& 255)]) (st := []) X (kr_add l q hRu) (dk D_Mi_expand 49 rfl) G_Mi_70 K_By_add V_By_add rfl rfl (hSu.lt (by decide)) rfl rfl (Nat.le_of_ble_eq_true rfl) (Nat.le_of_ble_eq_true rfl) (Nat.le_of_ble_eq_true rfl) (Nat.le_of_ble_eq_true rfl) (Nat.le_of_ble_eq_true rfl) ?_
            rintro v w ⟨rfl, y1, y2⟩
            rw [show (((bys g 27 ps).getD k 0) &&& 255).toInt8.toInt32 = ((bys g 27 ps).getD k 0) from (and255_b _).trans hbk] at y2
            show Vv _ _ _ _ _ _ _ _ _ _ _ _ _ _ _ [] (0, 0, w.2.2)
            refine v_iinc (v := nI (k + 1)) (lb := [some (.ref 0), some (.ref (33 + 3 * i)), some (.ref 26), some (.int (gI g 28 (ps.getD k 0))), some (.int (nI (k + 1))), some (.int (((bys g 27 ps).getD k 0) &&& 255))]) X (dk D_Mi_expand 50 rfl) rfl (nI_1 k) (by decide) rfl ?_
            refine v_goto (tgt := 16) X (dk D_Mi_expand 51 rfl) (by decide) ?_
            exact v_weak (la := [some (.ref 0), some (.ref (33 + 3 * i)), some (.ref 26), some (.int (gI g 28 (ps.getD k 0))), some (.int (nI (k + 1))), none]) ⟨rfl, rfl, rfl, rfl, rfl, trivial⟩ (ih (k + 1) _ w.2.2 _ (by omega) (fun hk1 => hch.at.2 k hk1) (zu.tr y1 (U := [5, 6]) (fun _ h => h) (fun _ h => h)) y2 (by rw [hG, hdk, xpd_ne c52]; simp))
          · refine v_iload X (dk D_Mi_expand 28 rfl) rfl ?_
            refine v_iconst (v := 1) X (dk D_Mi_expand 29 rfl) (by decide) ?_
            refine v_iadd X (dk D_Mi_expand 30 rfl) ?_
            refine v_aload_n X (dk D_Mi_expand 31 rfl) rfl ?_
            refine v_getI X (dk D_Mi_expand 32 rfl) F_Mi_254 rfl (kdM i hi).2.2 (hSu.lt (by omega)) ?_
            rw [show gI u (33 + 3 * i) 2 = nI ps.length from (zu.I (by simp; omega) 2).trans hch.2.1]
            refine v_icmp_ge (tgt := 90) X (dk D_Mi_expand 33 rfl) (by decide) (fun c63 => ?_) (fun c63 => ?_)
            · refine v_aload_n X (dk D_Mi_expand 46 rfl) rfl ?_
              refine v_getF X (dk D_Mi_expand 47 rfl) F_Mi_24 rfl rfl (hSu.lt (by decide)) (hSu.2 0 2) ?_
              refine v_iload X (dk D_Mi_expand 48 rfl) rfl ?_
              refine v_invV (As := [.int (((bys g 27 ps).getD k 0) &&& 255)]) (st := []) X (kr_add l q hRu) (dk D_Mi_expand 49 rfl) G_Mi_70 K_By_add V_By_add rfl rfl (hSu.lt (by decide)) rfl rfl (Nat.le_of_ble_eq_true rfl) (Nat.le_of_ble_eq_true rfl) (Nat.le_of_ble_eq_true rfl) (Nat.le_of_ble_eq_true rfl) (Nat.le_of_ble_eq_true rfl) ?_
              rintro v w ⟨rfl, y1, y2⟩
              rw [show (((bys g 27 ps).getD k 0) &&& 255).toInt8.toInt32 = ((bys g 27 ps).getD k 0) from (and255_b _).trans hbk] at y2
              show Vv _ _ _ _ _ _ _ _ _ _ _ _ _ _ _ [] (0, 0, w.2.2)
              refine v_iinc (v := nI (k + 1)) (lb := [some (.ref 0), some (.ref (33 + 3 * i)), some (.ref 26), some (.int (gI g 28 (ps.getD k 0))), some (.int (nI (k + 1))), some (.int (((bys g 27 ps).getD k 0) &&& 255))]) X (dk D_Mi_expand 50 rfl) rfl (nI_1 k) (by decide) rfl ?_
              refine v_goto (tgt := 16) X (dk D_Mi_expand 51 rfl) (by decide) ?_
              exact v_weak (la := [some (.ref 0), some (.ref (33 + 3 * i)), some (.ref 26), some (.int (gI g 28 (ps.getD k 0))), some (.int (nI (k + 1))), none]) ⟨rfl, rfl, rfl, rfl, rfl, trivial⟩ (ih (k + 1) _ w.2.2 _ (by omega) (fun hk1 => hch.at.2 k hk1) (zu.tr y1 (U := [5, 6]) (fun _ h => h) (fun _ h => h)) y2 (by rw [hG, hdk, List.drop_eq_nil_of_le (by rw [hbl]; rw [nI_1] at c63; have := (nI_leI (by omega) (by omega)).mp c63; omega), xpd, xpd, List.append_nil]))
            · have hk1 : k + 1 < ps.length := by rw [nI_1] at c63; exact Decidable.byContradiction (fun e => c63 (nI_le (by omega) (by omega)))
              have hdk1 : (bys g 27 ps).drop (k + 1) = ((bys g 27 ps).getD (k + 1) 0) :: (bys g 27 ps).drop (k + 1 + 1) := dr_cons (by rw [hbl]; exact hk1)
              have hx1 := hch.at.2 k hk1
              have hp1 : ps.getD (k + 1) 0 < 16512 := hps _ (getD_mem' hk1)
              have hat1 : (if ¬ (gI g 28 (ps.getD k 0)) < 0 ∧ ¬ nI 16512 ≤ (gI g 28 (ps.getD k 0)) then gI u 27 (gI g 28 (ps.getD k 0)).toNatClampNeg &&& 255 else -1) = ((bys g 27 ps).getD (k + 1) 0) &&& 255 := by rw [bys_getD hk1, hx1, if_pos ⟨nI_pos (by omega), nI_ge hp1 (by decide)⟩, nI_clamp (by omega), zu.I (by decide)]
              refine v_aload_n X (dk D_Mi_expand 34 rfl) rfl ?_
              refine v_aload_n X (dk D_Mi_expand 35 rfl) rfl ?_
              refine v_iload_n X (dk D_Mi_expand 36 rfl) rfl ?_
              refine v_invV (As := [.int (gI g 28 (ps.getD k 0))]) (st := [.ref 0]) X (c_Ce_at l q (i := (gI g 28 (ps.getD k 0))) (isC_M hSu)) (dk D_Mi_expand 37 rfl) G_Mi_258 K_Ce_at V_Ce_at rfl rfl (hSu.lt (by decide)) rfl rfl (Nat.le_of_ble_eq_true rfl) (Nat.le_of_ble_eq_true rfl) (Nat.le_of_ble_eq_true rfl) (Nat.le_of_ble_eq_true rfl) (Nat.le_of_ble_eq_true rfl) ?_
              rintro v wa ⟨rfl, hwa⟩
              rw [hwa, hat1]
              show Vv _ _ _ _ _ _ _ _ _ _ _ _ _ _ _ [.int (((bys g 27 ps).getD (k + 1) 0) &&& 255), .ref 0] (0, 0, u)
              refine v_invV (As := [.int (((bys g 27 ps).getD (k + 1) 0) &&& 255)]) (st := []) X (k_addMarked l q (m := ((bys g 27 ps).getD (k + 1) 0) &&& 255) hSu hCu hfb hRu (hO.sm zu (by simp) (by simp)) (hQ.sm zu (by simp) (by simp)) hob hcb) (dk D_Mi_expand 38 rfl) G_Mi_264 K_Mi_addMarked V_Mi_addMarked rfl rfl (hSu.lt (by decide)) rfl rfl (Nat.le_of_ble_eq_true rfl) (Nat.le_of_ble_eq_true rfl) (Nat.le_of_ble_eq_true rfl) (Nat.le_of_ble_eq_true rfl) (Nat.le_of_ble_eq_true rfl) ?_
              rintro v w2 ⟨rfl, a1, a2⟩
              have S2 := hSu.sm a1
              show Vv _ _ _ _ _ _ _ _ _ _ _ _ _ _ _ [.int (if (mrk f op cl (((bys g 27 ps).getD (k + 1) 0) &&& 255)).isSome = true then 1 else 0)] (0, 0, w2.2.2)
              refine v_if_eq (tgt := 90) X (dk D_Mi_expand 39 rfl) (by decide) (fun c75 => ?_) (fun c75 => ?_)
              · have hmk : mrk f op cl (((bys g 27 ps).getD (k + 1) 0) &&& 255) = none := by rcases on_or (mrk f op cl (((bys g 27 ps).getD (k + 1) 0) &&& 255)) with h | ⟨s, h⟩; exact h; rw [h] at c75; exact absurd c75 (show ¬ (1 : Int32) = 0 by decide)
                refine v_aload_n X (dk D_Mi_expand 46 rfl) rfl ?_
                refine v_getF X (dk D_Mi_expand 47 rfl) F_Mi_24 rfl rfl (S2.lt (by decide)) (S2.2 0 2) ?_
                refine v_iload X (dk D_Mi_expand 48 rfl) rfl ?_
                refine v_invV (As := [.int (((bys g 27 ps).getD k 0) &&& 255)]) (st := []) X (kr_add l q a2) (dk D_Mi_expand 49 rfl) G_Mi_70 K_By_add V_By_add rfl rfl (S2.lt (by decide)) rfl rfl (Nat.le_of_ble_eq_true rfl) (Nat.le_of_ble_eq_true rfl) (Nat.le_of_ble_eq_true rfl) (Nat.le_of_ble_eq_true rfl) (Nat.le_of_ble_eq_true rfl) ?_
                rintro v w ⟨rfl, y1, y2⟩
                rw [hmk, Option.getD_none, List.append_nil, show (((bys g 27 ps).getD k 0) &&& 255).toInt8.toInt32 = ((bys g 27 ps).getD k 0) from (and255_b _).trans hbk] at y2
                show Vv _ _ _ _ _ _ _ _ _ _ _ _ _ _ _ [] (0, 0, w.2.2)
                refine v_iinc (v := nI (k + 1)) (lb := [some (.ref 0), some (.ref (33 + 3 * i)), some (.ref 26), some (.int (gI g 28 (ps.getD k 0))), some (.int (nI (k + 1))), some (.int (((bys g 27 ps).getD k 0) &&& 255))]) X (dk D_Mi_expand 50 rfl) rfl (nI_1 k) (by decide) rfl ?_
                refine v_goto (tgt := 16) X (dk D_Mi_expand 51 rfl) (by decide) ?_
                exact v_weak (la := [some (.ref 0), some (.ref (33 + 3 * i)), some (.ref 26), some (.int (gI g 28 (ps.getD k 0))), some (.int (nI (k + 1))), none]) ⟨rfl, rfl, rfl, rfl, rfl, trivial⟩ (ih (k + 1) _ w.2.2 _ (by omega) (fun hk1 => hch.at.2 k hk1) ((zu.tr a1 (U := [5, 6]) (fun _ h => h) (fun _ h => h)).tr y1 (U := [5, 6]) (fun _ h => h) (fun _ h => h)) y2 (by rw [hG, hdk, hdk1, xpd, if_pos c52, hmk]; simp))
              · obtain ⟨s, hmk⟩ : ∃ s, mrk f op cl (((bys g 27 ps).getD (k + 1) 0) &&& 255) = some s := by rcases on_or (mrk f op cl (((bys g 27 ps).getD (k + 1) 0) &&& 255)) with h | h; rw [h] at c75; exact absurd rfl c75; exact h
                rw [hmk, Option.getD_some] at a2
                have hbe1 : (if ¬ (gI g 28 (ps.getD k 0)) < 0 ∧ ¬ nI 16512 ≤ (gI g 28 (ps.getD k 0)) then gI w2.2.2 28 (gI g 28 (ps.getD k 0)).toNatClampNeg else -1) = (gI g 28 (ps.getD (k + 1) 0)) := by rw [hx1, if_pos ⟨nI_pos (by omega), nI_ge hp1 (by decide)⟩, nI_clamp (by omega), (zu.tr a1 (U := [5, 6]) (fun _ h => h) (fun _ h => h)).I (by decide)]
                refine v_aload_n X (dk D_Mi_expand 40 rfl) rfl ?_
                refine v_iload_n X (dk D_Mi_expand 41 rfl) rfl ?_
                refine v_invV (As := [.int (gI g 28 (ps.getD k 0))]) (st := []) X (c_Ce_behind l q (i := (gI g 28 (ps.getD k 0))) (isC_M S2)) (dk D_Mi_expand 42 rfl) G_Mi_261 K_Ce_behind V_Ce_behind rfl rfl (S2.lt (by decide)) rfl rfl (Nat.le_of_ble_eq_true rfl) (Nat.le_of_ble_eq_true rfl) (Nat.le_of_ble_eq_true rfl) (Nat.le_of_ble_eq_true rfl) (Nat.le_of_ble_eq_true rfl) ?_
                rintro v wa ⟨rfl, hwa⟩
                rw [hwa, hbe1]
                show Vv _ _ _ _ _ _ _ _ _ _ _ _ _ _ _ [.int (gI g 28 (ps.getD (k + 1) 0))] (0, 0, w2.2.2)
                refine v_istore_n (lb := [some (.ref 0), some (.ref (33 + 3 * i)), some (.ref 26), some (.int (gI g 28 (ps.getD (k + 1) 0))), some (.int (nI k)), some (.int (((bys g 27 ps).getD k 0) &&& 255))]) X (dk D_Mi_expand 43 rfl) (by decide) rfl ?_
                refine v_iinc (v := nI (k + 1)) (lb := [some (.ref 0), some (.ref (33 + 3 * i)), some (.ref 26), some (.int (gI g 28 (ps.getD (k + 1) 0))), some (.int (nI (k + 1))), some (.int (((bys g 27 ps).getD k 0) &&& 255))]) X (dk D_Mi_expand 44 rfl) rfl (nI_1 k) (by decide) rfl ?_
                refine v_goto (tgt := 99) X (dk D_Mi_expand 45 rfl) (by decide) ?_
                refine v_iinc (v := nI (k + 1 + 1)) (lb := [some (.ref 0), some (.ref (33 + 3 * i)), some (.ref 26), some (.int (gI g 28 (ps.getD (k + 1) 0))), some (.int (nI (k + 1 + 1))), some (.int (((bys g 27 ps).getD k 0) &&& 255))]) X (dk D_Mi_expand 50 rfl) rfl (nI_1 (k + 1)) (by decide) rfl ?_
                refine v_goto (tgt := 16) X (dk D_Mi_expand 51 rfl) (by decide) ?_
                exact v_weak (la := [some (.ref 0), some (.ref (33 + 3 * i)), some (.ref 26), some (.int (gI g 28 (ps.getD (k + 1) 0))), some (.int (nI (k + 1 + 1))), none]) ⟨rfl, rfl, rfl, rfl, rfl, trivial⟩ (ih (k + 1 + 1) _ w2.2.2 _ (by omega) (fun hk1 => hch.at.2 (k + 1) hk1) (zu.tr a1 (U := [5, 6]) (fun _ h => h) (fun _ h => h)) a2 (by rw [hG, hdk, hdk1, xpd, if_pos c52, hmk]; simp))
  refine v_aload_n X (dk D_Mi_expand 0 rfl) rfl ?_
  refine v_getF X (dk D_Mi_expand 1 rfl) F_Mi_44 rfl rfl (hS.lt (by decide)) (hS.2 0 5) ?_
  refine v_getF X (dk D_Mi_expand 2 rfl) F_Mi_245 rfl rfl (hS.lt (by decide)) (hS.2 25 0) ?_
  refine v_astore_n (lb := [some (.ref 0), some (.ref (33 + 3 * i)), some (.ref 26), none, none, none]) X (dk D_Mi_expand 3 rfl) (by decide) rfl ?_
  refine v_aload_n X (dk D_Mi_expand 4 rfl) rfl ?_
  refine v_getI X (dk D_Mi_expand 5 rfl) F_Mi_249 rfl (kdM i hi).2.2 (hS.lt (by omega)) ?_
  refine v_istore_n (lb := [some (.ref 0), some (.ref (33 + 3 * i)), some (.ref 26), some (.int (gI g (33 + 3 * i) 0)), none, none]) X (dk D_Mi_expand 6 rfl) (by decide) rfl ?_
  refine v_iconst (v := nI 0) X (dk D_Mi_expand 7 rfl) (by decide) ?_
  refine v_istore (lb := [some (.ref 0), some (.ref (33 + 3 * i)), some (.ref 26), some (.int (gI g (33 + 3 * i) 0)), some (.int (nI 0)), none]) X (dk D_Mi_expand 8 rfl) (by decide) rfl ?_
  exact v_weak (la := [some (.ref 0), some (.ref (33 + 3 * i)), some (.ref 26), some (.int (gI g (33 + 3 * i) 0)), some (.int (nI 0)), none]) ⟨rfl, rfl, rfl, rfl, rfl, trivial⟩ (loop ps.length 0 _ g F (by omega) (fun h0 => hch.at.1 h0) (sm.rf _ _) hR (by rw [List.drop_zero]))
