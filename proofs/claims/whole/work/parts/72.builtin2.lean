/-! built-in macros: ifelse, substr, divert, undivert, changequote -/
theorem dr3 {as : List (List Int32)} {a : Nat} (h : a + 3 ≤ as.length) : as.drop a = as.getD a [] :: as.getD (a + 1) [] :: as.getD (a + 2) [] :: as.drop (a + 3) := by
  have c : ∀ k, k < as.length → as.drop k = as.getD k [] :: as.drop (k + 1) := fun k hk => by
    rw [List.drop_eq_getElem_cons hk, List.getD_eq_getElem?_getD, List.getElem?_eq_getElem hk]; rfl
  rw [c a (by omega), c (a + 1) (by omega), c (a + 2) (by omega)]
theorem ifX_lt {t : List (List Int32)} (h : t.length < 3) : ifX t = [] := by
  match t, h with
  | [], _ => rfl
  | [_], _ => rfl
  | [_, _], _ => rfl
theorem ifX_c {a b c : List Int32} {t : List (List Int32)} : ifX (a :: b :: c :: t) = if a = b then c else if t.length = 1 ∨ t.length = 2 then t.getD 0 [] else ifX t := by
  match t with
  | [] => by_cases e : a = b <;> simp [ifX, e]
  | [d] => by_cases e : a = b <;> simp [ifX, e]
  | [d, x] => by_cases e : a = b <;> simp [ifX, e]
  | d :: x :: y :: s => by_cases e : a = b <;> simp [ifX, e]
/-- substr: none where a number is wrong -/
def ctY (a : List Int32) : Option Int32 → Option Int32 → Option (List Int32)
  | some x, some y => some (if ¬ x < 0 ∧ ¬ nI a.length ≤ x ∧ ¬ y ≤ 0 then (a.drop x.toNatClampNeg).take (if nI a.length - x < y then nI a.length - x else y).toNatClampNeg else [])
  | _, _ => none
def ctX (as : List (List Int32)) : Option (List Int32) := ctY (as.getD 0 []) (nmX (as.getD 1 [])) (if 2 < as.length then nmX (as.getD 2 []) else some 16384)
def udA (cur : Int32) : Nat → Nat → (Nat → List Int32) → Nat → List Int32
  | 0, _, D => D
  | d + 1, i, D => udA cur d (i + 1) (brX cur D (nI i))
def udL (cur : Int32) : List (List Int32) → (Nat → List Int32) → Int32 × (Nat → List Int32)
  | [], D => (0, D)
  | a :: as, D => match nmX a with
    | none => (36, D)
    | some v => udL cur as (brX cur D v)
def udX (cur : Int32) (as : List (List Int32)) (D : Nat → List Int32) : Int32 × (Nat → List Int32) := if as.length = 0 ∨ (as.length = 1 ∧ (as.getD 0 []).length = 0) then (0, udA cur 9 1 D) else udL cur as D
theorem CS_DS : ∀ a ∈ CS, a ∉ DS := by decide
set_option maxHeartbeats 4000000 in
set_option maxRecDepth 100000 in
theorem k_chooseBySameness (l : Launch) (q : ev_T) {F : List Int32} {f : Fr} {r : List Fr} {cm : Bool} {g : mu_T} (hS : Shp g) (hC : CA g (f :: r) cm) (hfb : ∀ x ∈ hl (f :: r), isByte x) (hR : RE g F) : Ctr l q M_Mi_chooseBySameness 3 [.ref 0] (0, 0, g) (fun v w => v = some (.int 0) ∧ sm g w.2.2 [5, 6] ∧ RE w.2.2 (F ++ ifX f.2.1)) := by
  have hna : f.2.1.length ≤ 8192 := Nat.le_trans (na_le (f := f) (r := r)) hC.2.2.2.2.2.1
  refine Ctr.mk (lb := [some (.ref 0), none, none, none]) (by decide +kernel) (Nat.le_of_ble_eq_true rfl) rfl rfl ?_
  intro pp ee ss mm aa bb mt cd X hrt hlk hnm
  have loop : ∀ (d a : Nat), f.2.1.length ≤ a + d ∧ a ≤ f.2.1.length → ifX f.2.1 = ifX (f.2.1.drop a) → Vv pp l ee (rmT 3 0 0) ss mm aa bb mt cd 4 q (MQ bb (Qw q (fun v w => v = some (.int 0) ∧ sm g w.2.2 [5, 6] ∧ RE w.2.2 (F ++ ifX f.2.1))) aa ss 0 0 (fun a => q.1 ≤ a)) 10 [some (.ref 0), some (.int (nI f.2.1.length)), some (.int (nI a)), none] [] (0, 0, g) := by
    intro d
    induction d with
    | zero =>
      intro a had hif
      refine v_iload_n X (dk D_Mi_chooseBySameness 6 rfl) rfl ?_
      refine v_iconst (v := nI 3) X (dk D_Mi_chooseBySameness 7 rfl) (by decide) ?_
      refine v_iadd X (dk D_Mi_chooseBySameness 8 rfl) ?_
      rw [nI_add]
      refine v_iload_n X (dk D_Mi_chooseBySameness 9 rfl) rfl ?_
      refine v_icmp_gt (tgt := 68) X (dk D_Mi_chooseBySameness 10 rfl) (by decide) (fun _ => ?_) (fun c14 => absurd (nI_lt (by omega) (by omega)) c14)
      refine v_iconst (v := 0) X (dk D_Mi_chooseBySameness 46 rfl) (by decide) ?_
      exact v_iret X hlk hrt (dk D_Mi_chooseBySameness 47 rfl) ⟨rfl, sm.rf _ _, by rw [hif, ifX_lt (by rw [List.length_drop]; omega), List.append_nil]; exact hR⟩
    | succ d ih =>
      intro a had hif
      refine v_iload_n X (dk D_Mi_chooseBySameness 6 rfl) rfl ?_
      refine v_iconst (v := nI 3) X (dk D_Mi_chooseBySameness 7 rfl) (by decide) ?_
      refine v_iadd X (dk D_Mi_chooseBySameness 8 rfl) ?_
      rw [nI_add]
      refine v_iload_n X (dk D_Mi_chooseBySameness 9 rfl) rfl ?_
      refine v_icmp_gt (tgt := 68) X (dk D_Mi_chooseBySameness 10 rfl) (by decide) (fun c14 => ?_) (fun c14 => ?_)
      · refine v_iconst (v := 0) X (dk D_Mi_chooseBySameness 46 rfl) (by decide) ?_
        exact v_iret X hlk hrt (dk D_Mi_chooseBySameness 47 rfl) ⟨rfl, sm.rf _ _, by rw [hif, ifX_lt (by rw [List.length_drop]; have := (nI_ltI (by omega) (by omega)).mp c14; omega), List.append_nil]; exact hR⟩
      · have h3 : a + 3 ≤ f.2.1.length := Decidable.byContradiction (fun z => c14 (nI_lt (by omega) (by omega)))
        have hd3 := dr3 h3
        refine v_iload_n X (dk D_Mi_chooseBySameness 11 rfl) rfl ?_
        refine v_iload_n X (dk D_Mi_chooseBySameness 12 rfl) rfl ?_
        refine v_isub X (dk D_Mi_chooseBySameness 13 rfl) ?_
        rw [pk_sub (by omega)]
        refine v_iconst (v := nI 3) X (dk D_Mi_chooseBySameness 14 rfl) (by decide) ?_
        refine v_isub X (dk D_Mi_chooseBySameness 15 rfl) ?_
        rw [pk_sub (by omega)]
        refine v_istore_n (lb := [some (.ref 0), some (.int (nI f.2.1.length)), some (.int (nI a)), some (.int (nI (f.2.1.length - a - 3)))]) X (dk D_Mi_chooseBySameness 16 rfl) (by decide) rfl ?_
        refine v_aload_n X (dk D_Mi_chooseBySameness 17 rfl) rfl ?_
        refine v_iload_n X (dk D_Mi_chooseBySameness 18 rfl) rfl ?_
        refine v_iload_n X (dk D_Mi_chooseBySameness 19 rfl) rfl ?_
        refine v_iconst (v := nI 1) X (dk D_Mi_chooseBySameness 20 rfl) (by decide) ?_
        refine v_iadd X (dk D_Mi_chooseBySameness 21 rfl) ?_
        rw [nI_add]
        refine v_invV (As := [.int (nI a), .int (nI (a + 1))]) (st := []) X (k_areSame l q (i := a) (j := a + 1) hS hC hfb (by omega) (by omega)) (dk D_Mi_chooseBySameness 22 rfl) G_Mi_358 K_Mi_areSame V_Mi_areSame rfl rfl (hS.lt (by decide)) rfl rfl (Nat.le_of_ble_eq_true rfl) (Nat.le_of_ble_eq_true rfl) (Nat.le_of_ble_eq_true rfl) (Nat.le_of_ble_eq_true rfl) (Nat.le_of_ble_eq_true rfl) ?_
        rintro v ws ⟨rfl, hws⟩
        rw [hws]
        show Vv _ _ _ _ _ _ _ _ _ _ _ _ _ _ _ [.int (if (f.2.1.getD a []) = (f.2.1.getD (a + 1) []) then 1 else 0)] (0, 0, g)
        refine v_if_eq (tgt := 43) X (dk D_Mi_chooseBySameness 23 rfl) (by decide) (fun c31 => ?_) (fun c31 => ?_)
        · refine v_iload_n X (dk D_Mi_chooseBySameness 31 rfl) rfl ?_
          refine v_iconst (v := nI 1) X (dk D_Mi_chooseBySameness 32 rfl) (by decide) ?_
          refine v_icmp_eq (tgt := 53) X (dk D_Mi_chooseBySameness 33 rfl) (by decide) (fun c45 => ?_) (fun c45 => ?_)
          · refine v_aload_n X (dk D_Mi_chooseBySameness 37 rfl) rfl ?_
            refine v_iload_n X (dk D_Mi_chooseBySameness 38 rfl) rfl ?_
            refine v_iconst (v := nI 3) X (dk D_Mi_chooseBySameness 39 rfl) (by decide) ?_
            refine v_iadd X (dk D_Mi_chooseBySameness 40 rfl) ?_
            rw [nI_add]
            refine v_invV (As := [.int (nI (a + 3))]) (st := []) X (k_addArgument l q (i := a + 3) hS hC hfb hR (by omega)) (dk D_Mi_chooseBySameness 41 rfl) G_Mi_270 K_Mi_addArgument V_Mi_addArgument rfl rfl (hS.lt (by decide)) rfl rfl (Nat.le_of_ble_eq_true rfl) (Nat.le_of_ble_eq_true rfl) (Nat.le_of_ble_eq_true rfl) (Nat.le_of_ble_eq_true rfl) (Nat.le_of_ble_eq_true rfl) ?_
            rintro v w ⟨rfl, y1, y2⟩
            show Vv _ _ _ _ _ _ _ _ _ _ _ _ _ _ _ [] (0, 0, w.2.2)
            refine v_iconst (v := 0) X (dk D_Mi_chooseBySameness 42 rfl) (by decide) ?_
            exact v_iret X hlk hrt (dk D_Mi_chooseBySameness 43 rfl) ⟨rfl, y1, by rw [hif, hd3, ifX_c, if_neg (show ¬ (f.2.1.getD a []) = (f.2.1.getD (a + 1) []) from fun h => absurd c31 (by rw [if_pos h]; decide)), if_pos (by rw [List.length_drop]; first | exact Or.inl (by have := (nI_eq (b := 1) (by omega) (by decide)).mp c45; omega) | exact Or.inr (by have := (nI_eq (b := 2) (by omega) (by decide)).mp c50; omega)), List.getD_eq_getElem?_getD, List.getElem?_drop, Nat.add_zero, ← List.getD_eq_getElem?_getD]; exact y2⟩
          · refine v_iload_n X (dk D_Mi_chooseBySameness 34 rfl) rfl ?_
            refine v_iconst (v := nI 2) X (dk D_Mi_chooseBySameness 35 rfl) (by decide) ?_
            refine v_icmp_ne (tgt := 62) X (dk D_Mi_chooseBySameness 36 rfl) (by decide) (fun c50 => ?_) (fun c50 => ?_)
            · refine v_iinc (v := nI (a + 3)) (lb := [some (.ref 0), some (.int (nI f.2.1.length)), some (.int (nI (a + 3))), some (.int (nI (f.2.1.length - a - 3)))]) X (dk D_Mi_chooseBySameness 44 rfl) rfl (nI_add a 3) (by decide) rfl ?_
              refine v_goto (tgt := 10) X (dk D_Mi_chooseBySameness 45 rfl) (by decide) ?_
              exact v_weak (la := [some (.ref 0), some (.int (nI f.2.1.length)), some (.int (nI (a + 3))), none]) ⟨rfl, rfl, rfl, trivial⟩ (ih (a + 3) (by omega) (by rw [hif, hd3, ifX_c, if_neg (show ¬ (f.2.1.getD a []) = (f.2.1.getD (a + 1) []) from fun h => absurd c31 (by rw [if_pos h]; decide)), if_neg (by rw [List.length_drop]; exact fun z => z.elim (fun z => c45 (congrArg nI (show (f.2.1.length - a - 3) = 1 by omega))) (fun z => c50 (congrArg nI (show (f.2.1.length - a - 3) = 2 by omega))))]))
            · refine v_aload_n X (dk D_Mi_chooseBySameness 37 rfl) rfl ?_
              refine v_iload_n X (dk D_Mi_chooseBySameness 38 rfl) rfl ?_
              refine v_iconst (v := nI 3) X (dk D_Mi_chooseBySameness 39 rfl) (by decide) ?_
              refine v_iadd X (dk D_Mi_chooseBySameness 40 rfl) ?_
              rw [nI_add]
              refine v_invV (As := [.int (nI (a + 3))]) (st := []) X (k_addArgument l q (i := a + 3) hS hC hfb hR (by omega)) (dk D_Mi_chooseBySameness 41 rfl) G_Mi_270 K_Mi_addArgument V_Mi_addArgument rfl rfl (hS.lt (by decide)) rfl rfl (Nat.le_of_ble_eq_true rfl) (Nat.le_of_ble_eq_true rfl) (Nat.le_of_ble_eq_true rfl) (Nat.le_of_ble_eq_true rfl) (Nat.le_of_ble_eq_true rfl) ?_
              rintro v w ⟨rfl, y1, y2⟩
              show Vv _ _ _ _ _ _ _ _ _ _ _ _ _ _ _ [] (0, 0, w.2.2)
              refine v_iconst (v := 0) X (dk D_Mi_chooseBySameness 42 rfl) (by decide) ?_
              exact v_iret X hlk hrt (dk D_Mi_chooseBySameness 43 rfl) ⟨rfl, y1, by rw [hif, hd3, ifX_c, if_neg (show ¬ (f.2.1.getD a []) = (f.2.1.getD (a + 1) []) from fun h => absurd c31 (by rw [if_pos h]; decide)), if_pos (by rw [List.length_drop]; first | exact Or.inl (by have := (nI_eq (b := 1) (by omega) (by decide)).mp c45; omega) | exact Or.inr (by have := (nI_eq (b := 2) (by omega) (by decide)).mp c50; omega)), List.getD_eq_getElem?_getD, List.getElem?_drop, Nat.add_zero, ← List.getD_eq_getElem?_getD]; exact y2⟩
        · refine v_aload_n X (dk D_Mi_chooseBySameness 24 rfl) rfl ?_
          refine v_iload_n X (dk D_Mi_chooseBySameness 25 rfl) rfl ?_
          refine v_iconst (v := nI 2) X (dk D_Mi_chooseBySameness 26 rfl) (by decide) ?_
          refine v_iadd X (dk D_Mi_chooseBySameness 27 rfl) ?_
          rw [nI_add]
          refine v_invV (As := [.int (nI (a + 2))]) (st := []) X (k_addArgument l q (i := a + 2) hS hC hfb hR (by omega)) (dk D_Mi_chooseBySameness 28 rfl) G_Mi_270 K_Mi_addArgument V_Mi_addArgument rfl rfl (hS.lt (by decide)) rfl rfl (Nat.le_of_ble_eq_true rfl) (Nat.le_of_ble_eq_true rfl) (Nat.le_of_ble_eq_true rfl) (Nat.le_of_ble_eq_true rfl) (Nat.le_of_ble_eq_true rfl) ?_
          rintro v w ⟨rfl, y1, y2⟩
          show Vv _ _ _ _ _ _ _ _ _ _ _ _ _ _ _ [] (0, 0, w.2.2)
          refine v_iconst (v := 0) X (dk D_Mi_chooseBySameness 29 rfl) (by decide) ?_
          exact v_iret X hlk hrt (dk D_Mi_chooseBySameness 30 rfl) ⟨rfl, y1, by rw [hif, hd3, ifX_c, if_pos (show (f.2.1.getD a []) = (f.2.1.getD (a + 1) []) from Decidable.byContradiction (fun h => c31 (if_neg h)))]; exact y2⟩
  refine v_aload_n X (dk D_Mi_chooseBySameness 0 rfl) rfl ?_
  refine v_getF X (dk D_Mi_chooseBySameness 1 rfl) F_Mi_37 rfl rfl (hS.lt (by decide)) (hS.2 0 4) ?_
  refine v_invV (As := []) (st := []) X (k_arguments l q hS hC) (dk D_Mi_chooseBySameness 2 rfl) G_Mi_273 K_Ca_arguments V_Ca_arguments rfl rfl (hS.lt (by decide)) rfl rfl (Nat.le_of_ble_eq_true rfl) (Nat.le_of_ble_eq_true rfl) (Nat.le_of_ble_eq_true rfl) (Nat.le_of_ble_eq_true rfl) (Nat.le_of_ble_eq_true rfl) ?_
  rintro v ws ⟨rfl, hws⟩
  rw [hws]
  show Vv _ _ _ _ _ _ _ _ _ _ _ _ _ _ _ [.int (nI f.2.1.length)] (0, 0, g)
  refine v_istore_n (lb := [some (.ref 0), some (.int (nI f.2.1.length)), none, none]) X (dk D_Mi_chooseBySameness 3 rfl) (by decide) rfl ?_
  refine v_iconst (v := nI 0) X (dk D_Mi_chooseBySameness 4 rfl) (by decide) ?_
  refine v_istore_n (lb := [some (.ref 0), some (.int (nI f.2.1.length)), some (.int (nI 0)), none]) X (dk D_Mi_chooseBySameness 5 rfl) (by decide) rfl ?_
  exact loop f.2.1.length 0 (by omega) (by rw [List.drop_zero])
theorem DV_cur {g : mu_T} {cur x y : Int32} {D : Nat → List Int32} (h : DV g cur D) (hx : x = -1 ∨ ∃ c, c < 10 ∧ x = nI c) (e : y = x) : DV (xI g 982 0 x) y D := by
  obtain ⟨h1, h2, ch, fl, fr, hW, hX⟩ := h
  have z : sm g (xI g 982 0 x) [982] := (sm.rf g _).xI (by simp)
  rw [e]
  exact ⟨gI_eq _ _ _ _, hx, ch, fl, fr, hW.sm z (by decide) (by decide) (by decide), fun i hi => by rw [bys_sm z (by decide)]; exact hX i hi⟩
theorem cur_of {x : Int32} (h1 : x < 10) (h2 : ¬ x < 0) : ∃ c, c < 10 ∧ x = nI c := by
  obtain ⟨j, hj, rfl⟩ := nI_of h2
  exact ⟨j, (nI_ltI (b := 10) hj (by decide)).mp h1, rfl⟩
set_option maxHeartbeats 4000000 in
set_option maxRecDepth 100000 in
theorem k_divert (l : Launch) (q : ev_T) {cur : Int32} {D : Nat → List Int32} {f : Fr} {r : List Fr} {cm : Bool} {g : mu_T} (hS : Shp g) (hC : CA g (f :: r) cm) (hD : DV g cur D) : Ctr l q M_Mi_divert 3 [.ref 0] (0, 0, g) (fun v w => v = some (.int (match (nmX (f.2.1.getD 0 [])) with | none => 36 | some v => if v < 10 then 0 else 36)) ∧ sm g w.2.2 DS ∧ DV w.2.2 (match (nmX (f.2.1.getD 0 [])) with | none => cur | some v => if v < 10 then (if v < 0 then -1 else v) else cur) D) := by

  refine Ctr.mk (lb := [some (.ref 0), none]) (by decide +kernel) (Nat.le_of_ble_eq_true rfl) rfl rfl ?_
  intro pp ee ss mm aa bb mt cd X hrt hlk hnm
  refine v_aload_n X (dk D_Mi_divert 0 rfl) rfl ?_
  refine v_iconst (v := nI 0) X (dk D_Mi_divert 1 rfl) (by decide) ?_
  refine v_invV (As := [.int (nI 0)]) (st := []) X (k_number l q (i := 0) hS hC (by decide)) (dk D_Mi_divert 2 rfl) G_Mi_361 K_Mi_number V_Mi_number rfl rfl (hS.lt (by decide)) rfl rfl (Nat.le_of_ble_eq_true rfl) (Nat.le_of_ble_eq_true rfl) (Nat.le_of_ble_eq_true rfl) (Nat.le_of_ble_eq_true rfl) (Nat.le_of_ble_eq_true rfl) ?_
  rintro v ws ⟨rfl, hws⟩
  rw [hws]
  show Vv _ _ _ _ _ _ _ _ _ _ _ _ _ _ _ [.int ((nmX (f.2.1.getD 0 [])).getD (-2147483648))] (0, 0, g)
  refine v_istore_n (lb := [some (.ref 0), some (.int ((nmX (f.2.1.getD 0 [])).getD (-2147483648)))]) X (dk D_Mi_divert 3 rfl) (by decide) rfl ?_
  refine v_iload_n X (dk D_Mi_divert 4 rfl) rfl ?_
  refine v_ldcw X (dk D_Mi_divert 5 rfl) C_Mi_364 ?_
  refine v_icmp_eq (tgt := 19) X (dk D_Mi_divert 6 rfl) (by decide) (fun c10 => ?_) (fun c10 => ?_)
  · refine v_bipush (v := 36) X (dk D_Mi_divert 10 rfl) (by decide) ?_
    exact v_iret X hlk hrt (dk D_Mi_divert 11 rfl) ⟨by rw [nmX_no.mp c10], sm.rf _ _, by rw [nmX_no.mp c10]; exact hD⟩
  · obtain ⟨x, hx⟩ : ∃ x, (nmX (f.2.1.getD 0 [])) = some x := by rcases on_or (nmX (f.2.1.getD 0 [])) with h | h; exact absurd (nmX_no.mpr h) c10; exact h
    rw [hx, Option.getD_some]
    refine v_iload_n X (dk D_Mi_divert 7 rfl) rfl ?_
    refine v_bipush (v := 10) X (dk D_Mi_divert 8 rfl) (by decide) ?_
    refine v_icmp_lt (tgt := 22) X (dk D_Mi_divert 9 rfl) (by decide) (fun c16 => ?_) (fun c16 => ?_)
    · have hlt : x < 10 := c16
      refine v_aload_n X (dk D_Mi_divert 12 rfl) rfl ?_
      refine v_getF X (dk D_Mi_divert 13 rfl) F_Mi_51 rfl rfl (hS.lt (by decide)) (hS.2 0 6) ?_
      refine v_iload_n X (dk D_Mi_divert 14 rfl) rfl ?_
      refine v_if_ge (tgt := 34) X (dk D_Mi_divert 15 rfl) (by decide) (fun c27 => ?_) (fun c27 => ?_)
      · refine v_iload_n X (dk D_Mi_divert 18 rfl) rfl ?_
        refine v_putI X (dk D_Mi_divert 19 rfl) F_Mi_379 CK_Di rfl rfl (hS.lt (by decide)) rfl rfl ?_
        refine v_iconst (v := 0) X (dk D_Mi_divert 20 rfl) (by decide) ?_
        exact v_iret X hlk hrt (dk D_Mi_divert 21 rfl) ⟨by show some (Value.int 0) = some (Value.int (if x < 10 then 0 else 36)); rw [if_pos hlt], (sm.rf g _).xI (by decide), by show DV _ (if x < 10 then (if x < 0 then -1 else x) else cur) D; rw [if_pos hlt]; exact DV_cur hD (Or.inr (cur_of hlt (Int32.not_lt.mpr c27))) (if_neg (Int32.not_lt.mpr c27))⟩
      · refine v_iconst (v := -1) X (dk D_Mi_divert 16 rfl) (by decide) ?_
        refine v_goto (tgt := 35) X (dk D_Mi_divert 17 rfl) (by decide) ?_
        refine v_putI X (dk D_Mi_divert 19 rfl) F_Mi_379 CK_Di rfl rfl (hS.lt (by decide)) rfl rfl ?_
        refine v_iconst (v := 0) X (dk D_Mi_divert 20 rfl) (by decide) ?_
        exact v_iret X hlk hrt (dk D_Mi_divert 21 rfl) ⟨by show some (Value.int 0) = some (Value.int (if x < 10 then 0 else 36)); rw [if_pos hlt], (sm.rf g _).xI (by decide), by show DV _ (if x < 10 then (if x < 0 then -1 else x) else cur) D; rw [if_pos hlt]; exact DV_cur hD (Or.inl rfl) (if_pos (Int32.not_le.mp c27))⟩
    · have hnlt : ¬ x < 10 := c16
      refine v_bipush (v := 36) X (dk D_Mi_divert 10 rfl) (by decide) ?_
      exact v_iret X hlk hrt (dk D_Mi_divert 11 rfl) ⟨by show some (Value.int 36) = some (Value.int (if x < 10 then 0 else 36)); rw [if_neg hnlt], sm.rf _ _, by show DV _ (if x < 10 then (if x < 0 then -1 else x) else cur) D; rw [if_neg hnlt]; exact hD⟩
set_option maxHeartbeats 4000000 in
set_option maxRecDepth 100000 in
theorem k_undivert (l : Launch) (q : ev_T) {cur : Int32} {D : Nat → List Int32} {f : Fr} {r : List Fr} {cm : Bool} {g : mu_T} (hS : Shp g) (hC : CA g (f :: r) cm) (hRr : DR g) (hD : DV g cur D) : Ctr l q M_Mi_undivert 3 [.ref 0] (0, 0, g) (fun v w => v = some (.int (udX cur f.2.1 D).1) ∧ sm g w.2.2 DS ∧ DV w.2.2 cur (udX cur f.2.1 D).2) := by
  have hna : f.2.1.length ≤ 8192 := Nat.le_trans (na_le (f := f) (r := r)) hC.2.2.2.2.2.1
  have h10 := ag_le (f := f) (r := r) 0
  have h11 := hC.1.2.1
  refine Ctr.mk (lb := [some (.ref 0), none, none, none]) (by decide +kernel) (Nat.le_of_ble_eq_true rfl) rfl rfl ?_
  intro pp ee ss mm aa bb mt cd X hrt hlk hnm
  have loop1 : ∀ (d i : Nat) (u : mu_T) (E : Nat → List Int32), i + d = 10 → sm g u DS → DV u cur E → (udX cur f.2.1 D) = (0, udA cur d i E) → Vv pp l ee (rmT 3 0 0) ss mm aa bb mt cd 4 q (MQ bb (Qw q (fun v w => v = some (.int (udX cur f.2.1 D).1) ∧ sm g w.2.2 DS ∧ DV w.2.2 cur (udX cur f.2.1 D).2)) aa ss 0 0 (fun a => q.1 ≤ a)) 30 [some (.ref 0), some (.int (nI f.2.1.length)), some (.int (nI i)), none] [] (0, 0, u) := by
    intro d
    induction d with
    | zero =>
      intro i u E hid zu hDu hux
      have hSu := hS.sm zu
      have hCu := hC.sm zu CS_DS
      have hRu := hRr.sm zu (by decide)
      refine v_iload_n X (dk D_Mi_undivert 16 rfl) rfl ?_
      refine v_bipush (v := 10) X (dk D_Mi_undivert 17 rfl) (by decide) ?_
      refine v_icmp_ge (tgt := 50) X (dk D_Mi_undivert 18 rfl) (by decide) (fun _ => ?_) (fun c33 => absurd (nI_le (a := 10) (by omega) (by omega)) c33)
      refine v_iconst (v := 0) X (dk D_Mi_undivert 25 rfl) (by decide) ?_
      exact v_iret X hlk hrt (dk D_Mi_undivert 26 rfl) ⟨by rw [hux], zu, by rw [hux]; exact hDu⟩
    | succ d ih =>
      intro i u E hid zu hDu hux
      have hSu := hS.sm zu
      have hCu := hC.sm zu CS_DS
      have hRu := hRr.sm zu (by decide)
      refine v_iload_n X (dk D_Mi_undivert 16 rfl) rfl ?_
      refine v_bipush (v := 10) X (dk D_Mi_undivert 17 rfl) (by decide) ?_
      refine v_icmp_ge (tgt := 50) X (dk D_Mi_undivert 18 rfl) (by decide) (fun c33 => absurd c33 (nI_ge (b := 10) (by omega) (by omega))) (fun _ => ?_)
      refine v_aload_n X (dk D_Mi_undivert 19 rfl) rfl ?_
      refine v_getF X (dk D_Mi_undivert 20 rfl) F_Mi_51 rfl rfl (hSu.lt (by decide)) (hSu.2 0 6) ?_
      refine v_iload_n X (dk D_Mi_undivert 21 rfl) rfl ?_
      refine v_invV (As := [.int (nI i)]) (st := []) X (k_Di_bring l q (x := (nI i)) hSu hRu hDu) (dk D_Mi_undivert 22 rfl) G_Mi_382 K_Di_bring V_Di_bring rfl rfl (hSu.lt (by decide)) rfl rfl (Nat.le_of_ble_eq_true rfl) (Nat.le_of_ble_eq_true rfl) (Nat.le_of_ble_eq_true rfl) (Nat.le_of_ble_eq_true rfl) (Nat.le_of_ble_eq_true rfl) ?_
      rintro v w ⟨rfl, y1, y2⟩
      show Vv _ _ _ _ _ _ _ _ _ _ _ _ _ _ _ [] (0, 0, w.2.2)
      refine v_iinc (v := nI (i + 1)) (lb := [some (.ref 0), some (.int (nI f.2.1.length)), some (.int (nI (i + 1))), none]) X (dk D_Mi_undivert 23 rfl) rfl (nI_1 i) (by decide) rfl ?_
      refine v_goto (tgt := 30) X (dk D_Mi_undivert 24 rfl) (by decide) ?_
      exact ih (i + 1) w.2.2 _ (by omega) (zu.tr y1 (U := DS) (fun _ h => h) (fun _ h => h)) y2 (by rw [hux]; rfl)
  have loop2 : ∀ (d i : Nat) (u : mu_T) (E : Nat → List Int32), i + d = f.2.1.length → sm g u DS → DV u cur E → (udX cur f.2.1 D) = udL cur (f.2.1.drop i) E → Vv pp l ee (rmT 3 0 0) ss mm aa bb mt cd 4 q (MQ bb (Qw q (fun v w => v = some (.int (udX cur f.2.1 D).1) ∧ sm g w.2.2 DS ∧ DV w.2.2 cur (udX cur f.2.1 D).2)) aa ss 0 0 (fun a => q.1 ≤ a)) 54 [some (.ref 0), some (.int (nI f.2.1.length)), some (.int (nI i)), none] [] (0, 0, u) := by
    intro d
    induction d with
    | zero =>
      intro i u E hid zu hDu hux
      have hSu := hS.sm zu
      have hCu := hC.sm zu CS_DS
      have hRu := hRr.sm zu (by decide)
      refine v_iload_n X (dk D_Mi_undivert 29 rfl) rfl ?_
      refine v_iload_n X (dk D_Mi_undivert 30 rfl) rfl ?_
      refine v_icmp_ge (tgt := 89) X (dk D_Mi_undivert 31 rfl) (by decide) (fun _ => ?_) (fun c56 => absurd (nI_le (by omega) (by omega)) c56)
      refine v_iconst (v := 0) X (dk D_Mi_undivert 47 rfl) (by decide) ?_
      exact v_iret X hlk hrt (dk D_Mi_undivert 48 rfl) ⟨by rw [hux, List.drop_eq_nil_of_le (by omega), udL], zu, by rw [hux, List.drop_eq_nil_of_le (by omega), udL]; exact hDu⟩
    | succ d ih =>
      intro i u E hid zu hDu hux
      have hSu := hS.sm zu
      have hCu := hC.sm zu CS_DS
      have hRu := hRr.sm zu (by decide)
      have hdr : f.2.1.drop i = (f.2.1.getD i []) :: f.2.1.drop (i + 1) := by rw [List.drop_eq_getElem_cons (by omega), List.getD_eq_getElem?_getD, List.getElem?_eq_getElem (by omega)]; rfl
      refine v_iload_n X (dk D_Mi_undivert 29 rfl) rfl ?_
      refine v_iload_n X (dk D_Mi_undivert 30 rfl) rfl ?_
      refine v_icmp_ge (tgt := 89) X (dk D_Mi_undivert 31 rfl) (by decide) (fun c56 => absurd c56 (nI_ge (by omega) (by omega))) (fun _ => ?_)
      refine v_aload_n X (dk D_Mi_undivert 32 rfl) rfl ?_
      refine v_iload_n X (dk D_Mi_undivert 33 rfl) rfl ?_
      refine v_invV (As := [.int (nI i)]) (st := []) X (k_number l q (i := i) hSu hCu (by omega)) (dk D_Mi_undivert 34 rfl) G_Mi_361 K_Mi_number V_Mi_number rfl rfl (hSu.lt (by decide)) rfl rfl (Nat.le_of_ble_eq_true rfl) (Nat.le_of_ble_eq_true rfl) (Nat.le_of_ble_eq_true rfl) (Nat.le_of_ble_eq_true rfl) (Nat.le_of_ble_eq_true rfl) ?_
      rintro v ws ⟨rfl, hws⟩
      rw [hws]
      show Vv _ _ _ _ _ _ _ _ _ _ _ _ _ _ _ [.int ((nmX (f.2.1.getD i [])).getD (-2147483648))] (0, 0, u)
      refine v_istore_n (lb := [some (.ref 0), some (.int (nI f.2.1.length)), some (.int (nI i)), some (.int ((nmX (f.2.1.getD i [])).getD (-2147483648)))]) X (dk D_Mi_undivert 35 rfl) (by decide) rfl ?_
      refine v_iload_n X (dk D_Mi_undivert 36 rfl) rfl ?_
      refine v_ldcw X (dk D_Mi_undivert 37 rfl) C_Mi_364 ?_
      refine v_icmp_ne (tgt := 75) X (dk D_Mi_undivert 38 rfl) (by decide) (fun c69 => ?_) (fun c69 => ?_)
      · refine v_aload_n X (dk D_Mi_undivert 41 rfl) rfl ?_
        refine v_getF X (dk D_Mi_undivert 42 rfl) F_Mi_51 rfl rfl (hSu.lt (by decide)) (hSu.2 0 6) ?_
        refine v_iload_n X (dk D_Mi_undivert 43 rfl) rfl ?_
        refine v_invV (As := [.int ((nmX (f.2.1.getD i [])).getD (-2147483648))]) (st := []) X (k_Di_bring l q (x := ((nmX (f.2.1.getD i [])).getD (-2147483648))) hSu hRu hDu) (dk D_Mi_undivert 44 rfl) G_Mi_382 K_Di_bring V_Di_bring rfl rfl (hSu.lt (by decide)) rfl rfl (Nat.le_of_ble_eq_true rfl) (Nat.le_of_ble_eq_true rfl) (Nat.le_of_ble_eq_true rfl) (Nat.le_of_ble_eq_true rfl) (Nat.le_of_ble_eq_true rfl) ?_
        rintro v w ⟨rfl, y1, y2⟩
        show Vv _ _ _ _ _ _ _ _ _ _ _ _ _ _ _ [] (0, 0, w.2.2)
        refine v_iinc (v := nI (i + 1)) (lb := [some (.ref 0), some (.int (nI f.2.1.length)), some (.int (nI (i + 1))), some (.int ((nmX (f.2.1.getD i [])).getD (-2147483648)))]) X (dk D_Mi_undivert 45 rfl) rfl (nI_1 i) (by decide) rfl ?_
        refine v_goto (tgt := 54) X (dk D_Mi_undivert 46 rfl) (by decide) ?_
        exact v_weak (la := [some (.ref 0), some (.int (nI f.2.1.length)), some (.int (nI (i + 1))), none]) ⟨rfl, rfl, rfl, trivial⟩ (ih (i + 1) w.2.2 _ (by omega) (zu.tr y1 (U := DS) (fun _ h => h) (fun _ h => h)) y2 (by rcases on_or (nmX (f.2.1.getD i [])) with h | ⟨x, h⟩; exact absurd (nmX_no.mpr h) c69; rw [hux, hdr, udL, h]; rfl))
      · refine v_bipush (v := 36) X (dk D_Mi_undivert 39 rfl) (by decide) ?_
        exact v_iret X hlk hrt (dk D_Mi_undivert 40 rfl) ⟨by rw [hux, hdr, udL, nmX_no.mp c69], zu, by rw [hux, hdr, udL, nmX_no.mp c69]; exact hDu⟩
  refine v_aload_n X (dk D_Mi_undivert 0 rfl) rfl ?_
  refine v_getF X (dk D_Mi_undivert 1 rfl) F_Mi_37 rfl rfl (hS.lt (by decide)) (hS.2 0 4) ?_
  refine v_invV (As := []) (st := []) X (k_arguments l q hS hC) (dk D_Mi_undivert 2 rfl) G_Mi_273 K_Ca_arguments V_Ca_arguments rfl rfl (hS.lt (by decide)) rfl rfl (Nat.le_of_ble_eq_true rfl) (Nat.le_of_ble_eq_true rfl) (Nat.le_of_ble_eq_true rfl) (Nat.le_of_ble_eq_true rfl) (Nat.le_of_ble_eq_true rfl) ?_
  rintro v ws ⟨rfl, hws⟩
  rw [hws]
  show Vv _ _ _ _ _ _ _ _ _ _ _ _ _ _ _ [.int (nI f.2.1.length)] (0, 0, g)
  refine v_istore_n (lb := [some (.ref 0), some (.int (nI f.2.1.length)), none, none]) X (dk D_Mi_undivert 3 rfl) (by decide) rfl ?_
  refine v_iload_n X (dk D_Mi_undivert 4 rfl) rfl ?_
  refine v_if_eq (tgt := 28) X (dk D_Mi_undivert 5 rfl) (by decide) (fun c9 => ?_) (fun c9 => ?_)
  · refine v_iconst (v := nI 1) X (dk D_Mi_undivert 14 rfl) (by decide) ?_
    refine v_istore_n (lb := [some (.ref 0), some (.int (nI f.2.1.length)), some (.int (nI 1)), none]) X (dk D_Mi_undivert 15 rfl) (by decide) rfl ?_
    exact loop1 9 1 g D (by omega) (sm.rf _ _) hD (by rw [udX, if_pos (Or.inl ((nI_eq (b := 0) (by omega) (by decide)).mp c9))])
  · refine v_iload_n X (dk D_Mi_undivert 6 rfl) rfl ?_
    refine v_iconst (v := nI 1) X (dk D_Mi_undivert 7 rfl) (by decide) ?_
    refine v_icmp_ne (tgt := 52) X (dk D_Mi_undivert 8 rfl) (by decide) (fun c14 => ?_) (fun c14 => ?_)
    · refine v_iconst (v := nI 0) X (dk D_Mi_undivert 27 rfl) (by decide) ?_
      refine v_istore_n (lb := [some (.ref 0), some (.int (nI f.2.1.length)), some (.int (nI 0)), none]) X (dk D_Mi_undivert 28 rfl) (by decide) rfl ?_
      exact loop2 f.2.1.length 0 g D (by omega) (sm.rf _ _) hD (by rw [udX, if_neg (fun z => z.elim (fun z => c9 (by rw [z]; rfl)) (fun z => c14 (congrArg nI z.1))), List.drop_zero])
    · refine v_aload_n X (dk D_Mi_undivert 9 rfl) rfl ?_
      refine v_getF X (dk D_Mi_undivert 10 rfl) F_Mi_37 rfl rfl (hS.lt (by decide)) (hS.2 0 4) ?_
      refine v_iconst (v := nI 0) X (dk D_Mi_undivert 11 rfl) (by decide) ?_
      refine v_invV (As := [.int (nI 0)]) (st := []) X (k_length l q (i := 0) hS hC (by decide)) (dk D_Mi_undivert 12 rfl) G_Mi_286 K_Ca_length V_Ca_length rfl rfl (hS.lt (by decide)) rfl rfl (Nat.le_of_ble_eq_true rfl) (Nat.le_of_ble_eq_true rfl) (Nat.le_of_ble_eq_true rfl) (Nat.le_of_ble_eq_true rfl) (Nat.le_of_ble_eq_true rfl) ?_
      rintro v ws ⟨rfl, hws⟩
      rw [hws]
      show Vv _ _ _ _ _ _ _ _ _ _ _ _ _ _ _ [.int (nI (f.2.1.getD 0 []).length)] (0, 0, g)
      refine v_if_ne (tgt := 52) X (dk D_Mi_undivert 13 rfl) (by decide) (fun c25 => ?_) (fun c25 => ?_)
      · refine v_iconst (v := nI 0) X (dk D_Mi_undivert 27 rfl) (by decide) ?_
        refine v_istore_n (lb := [some (.ref 0), some (.int (nI f.2.1.length)), some (.int (nI 0)), none]) X (dk D_Mi_undivert 28 rfl) (by decide) rfl ?_
        exact loop2 f.2.1.length 0 g D (by omega) (sm.rf _ _) hD (by rw [udX, if_neg (fun z => z.elim (fun z => c9 (by rw [z]; rfl)) (fun z => c25 (by rw [z.2]; rfl))), List.drop_zero])
      · refine v_iconst (v := nI 1) X (dk D_Mi_undivert 14 rfl) (by decide) ?_
        refine v_istore_n (lb := [some (.ref 0), some (.int (nI f.2.1.length)), some (.int (nI 1)), none]) X (dk D_Mi_undivert 15 rfl) (by decide) rfl ?_
        exact loop1 9 1 g D (by omega) (sm.rf _ _) hD (by rw [udX, if_pos (Or.inr ⟨(nI_eq (b := 1) (by omega) (by decide)).mp c14, (nI_eq (b := 0) (by omega) (by decide)).mp c25⟩)])
