/-! built-in macros: substr, changequote -/
theorem sub_sl {f : Fr} {r : List Fr} {i a k : Nat} (h : a + k ≤ (f.2.1.getD i []).length) : ((hl (f :: r)).drop (stA f r i + a)).take k = ((f.2.1.getD i []).drop a).take k := by
  conv => rhs; rw [← hl_slice (f := f) (r := r) i]
  rw [List.drop_take, List.drop_drop, List.take_take, Nat.min_eq_left (by omega)]
def cqX (as : List (List Int32)) : Option (List Int32 × List Int32) := if as.length = 0 then some ([96], [39]) else if isQt (as.getD 0 []) = true ∧ isQt (as.getD 1 []) = true then some (as.getD 0 [], as.getD 1 []) else none
set_option maxHeartbeats 4000000 in
set_option maxRecDepth 100000 in
theorem k_cutOut (l : Launch) (q : ev_T) {F : List Int32} {f : Fr} {r : List Fr} {cm : Bool} {g : mu_T} (hS : Shp g) (hC : CA g (f :: r) cm) (hfb : ∀ x ∈ hl (f :: r), isByte x) (hR : RE g F) : Ctr l q M_Mi_cutOut 3 [.ref 0] (0, 0, g) (fun v w => v = some (.int (if (ctX f.2.1).isSome = true then 0 else 36)) ∧ sm g w.2.2 [5, 6] ∧ RE w.2.2 (F ++ (ctX f.2.1).getD [])) := by
  have hna : f.2.1.length ≤ 8192 := Nat.le_trans (na_le (f := f) (r := r)) hC.2.2.2.2.2.1
  have h0l := ag_le (f := f) (r := r) 0
  have h3l := hC.1.2.1
  refine Ctr.mk (lb := [some (.ref 0), none, none, none]) (by decide +kernel) (Nat.le_of_ble_eq_true rfl) rfl rfl ?_
  intro pp ee ss mm aa bb mt cd X hrt hlk hnm
  have tail : ∀ (Y : Int32) (oy : Option Int32), (oy = none ↔ Y = -2147483648) → (∀ y, oy = some y → Y = y) → (ctX f.2.1) = ctY (f.2.1.getD 0 []) (nmX (f.2.1.getD 1 [])) oy → Vv pp l ee (rmT 3 0 0) ss mm aa bb mt cd 4 q (MQ bb (Qw q (fun v w => v = some (.int (if (ctX f.2.1).isSome = true then 0 else 36)) ∧ sm g w.2.2 [5, 6] ∧ RE w.2.2 (F ++ (ctX f.2.1).getD []))) aa ss 0 0 (fun a => q.1 ≤ a)) 29 [some (.ref 0), some (.int ((nmX (f.2.1.getD 1 [])).getD (-2147483648))), some (.int Y), none] [] (0, 0, g) := by
    intro Y oy hn hs hct
    rcases on_or (nmX (f.2.1.getD 1 [])) with h1 | ⟨x, h1⟩
    · rw [h1] at hct
      have hct : (ctX f.2.1) = none := hct.trans (by cases oy <;> rfl)
      refine v_iload_n X (dk D_Mi_cutOut 15 rfl) rfl ?_
      refine v_ldcw X (dk D_Mi_cutOut 16 rfl) C_Mi_364 ?_
      refine v_icmp_eq (tgt := 43) X (dk D_Mi_cutOut 17 rfl) (by decide) (fun _ => ?_) (fun c33 => absurd (nmX_no.mpr h1) c33)
      refine v_bipush (v := 36) X (dk D_Mi_cutOut 21 rfl) (by decide) ?_
      exact v_iret X hlk hrt (dk D_Mi_cutOut 22 rfl) ⟨by rw [hct]; rfl, sm.rf _ _, by rw [hct]; show RE _ (F ++ []); rw [List.append_nil]; exact hR⟩
    · have nmx1 : ¬ nmX (f.2.1.getD 1 []) = none := fun z => by rw [h1] at z; cases z
      rcases on_or oy with h2 | ⟨y, h2⟩
      · have hy := hn.mp h2
        rw [h1, h2] at hct
        have hct : (ctX f.2.1) = none := hct
        refine v_iload_n X (dk D_Mi_cutOut 15 rfl) rfl ?_
        refine v_ldcw X (dk D_Mi_cutOut 16 rfl) C_Mi_364 ?_
        refine v_icmp_eq (tgt := 43) X (dk D_Mi_cutOut 17 rfl) (by decide) (fun c33 => absurd c33 (fun z => nmx1 (nmX_no.mp z))) (fun _ => ?_)
        refine v_iload_n X (dk D_Mi_cutOut 18 rfl) rfl ?_
        refine v_ldcw X (dk D_Mi_cutOut 19 rfl) C_Mi_364 ?_
        refine v_icmp_ne (tgt := 46) X (dk D_Mi_cutOut 20 rfl) (by decide) (fun c40 => absurd hy c40) (fun _ => ?_)
        refine v_bipush (v := 36) X (dk D_Mi_cutOut 21 rfl) (by decide) ?_
        exact v_iret X hlk hrt (dk D_Mi_cutOut 22 rfl) ⟨by rw [hct]; rfl, sm.rf _ _, by rw [hct]; show RE _ (F ++ []); rw [List.append_nil]; exact hR⟩
      · have hy : ¬ Y = -2147483648 := fun z => by rw [hn.mpr z] at h2; cases h2
        have hYy := hs y h2
        rw [h1, h2, ← hYy] at hct
        have hct : (ctX f.2.1) = some (if ¬ x < 0 ∧ ¬ nI (f.2.1.getD 0 []).length ≤ x ∧ ¬ Y ≤ 0 then ((f.2.1.getD 0 []).drop x.toNatClampNeg).take (if nI (f.2.1.getD 0 []).length - x < Y then nI (f.2.1.getD 0 []).length - x else Y).toNatClampNeg else []) := hct
        have hx1 : ((nmX (f.2.1.getD 1 [])).getD (-2147483648)) = x := by rw [h1]; rfl
        rw [hx1]
        refine v_iload_n X (dk D_Mi_cutOut 15 rfl) rfl ?_
        refine v_ldcw X (dk D_Mi_cutOut 16 rfl) C_Mi_364 ?_
        refine v_icmp_eq (tgt := 43) X (dk D_Mi_cutOut 17 rfl) (by decide) (fun c33 => absurd c33 (fun z => nmx1 (nmX_no.mp (hx1.trans z)))) (fun _ => ?_)
        refine v_iload_n X (dk D_Mi_cutOut 18 rfl) rfl ?_
        refine v_ldcw X (dk D_Mi_cutOut 19 rfl) C_Mi_364 ?_
        refine v_icmp_ne (tgt := 46) X (dk D_Mi_cutOut 20 rfl) (by decide) (fun _ => ?_) (fun c40 => absurd c40 hy)
        refine v_aload_n X (dk D_Mi_cutOut 23 rfl) rfl ?_
        refine v_getF X (dk D_Mi_cutOut 24 rfl) F_Mi_37 rfl rfl (hS.lt (by decide)) (hS.2 0 4) ?_
        refine v_iconst (v := nI 0) X (dk D_Mi_cutOut 25 rfl) (by decide) ?_
        refine v_invV (As := [.int (nI 0)]) (st := []) X (k_length l q (i := 0) hS hC (by decide)) (dk D_Mi_cutOut 26 rfl) G_Mi_286 K_Ca_length V_Ca_length rfl rfl (hS.lt (by decide)) rfl rfl (Nat.le_of_ble_eq_true rfl) (Nat.le_of_ble_eq_true rfl) (Nat.le_of_ble_eq_true rfl) (Nat.le_of_ble_eq_true rfl) (Nat.le_of_ble_eq_true rfl) ?_
        rintro v ws ⟨rfl, hws⟩
        rw [hws]
        show Vv _ _ _ _ _ _ _ _ _ _ _ _ _ _ _ [.int (nI (f.2.1.getD 0 []).length)] (0, 0, g)
        refine v_istore_n (lb := [some (.ref 0), some (.int x), some (.int Y), some (.int (nI (f.2.1.getD 0 []).length))]) X (dk D_Mi_cutOut 27 rfl) (by decide) rfl ?_
        refine v_iload_n X (dk D_Mi_cutOut 28 rfl) rfl ?_
        refine v_if_lt (tgt := 99) X (dk D_Mi_cutOut 29 rfl) (by decide) (fun c56 => ?_) (fun c56 => ?_)
        · refine v_iconst (v := 0) X (dk D_Mi_cutOut 52 rfl) (by decide) ?_
          exact v_iret X hlk hrt (dk D_Mi_cutOut 53 rfl) ⟨by rw [hct]; rfl, sm.rf _ _, by rw [hct, Option.getD_some, if_neg (fun z => z.1 c56), List.append_nil]; exact hR⟩
        · refine v_iload_n X (dk D_Mi_cutOut 30 rfl) rfl ?_
          refine v_iload_n X (dk D_Mi_cutOut 31 rfl) rfl ?_
          refine v_icmp_ge (tgt := 99) X (dk D_Mi_cutOut 32 rfl) (by decide) (fun c61 => ?_) (fun c61 => ?_)
          · refine v_iconst (v := 0) X (dk D_Mi_cutOut 52 rfl) (by decide) ?_
            exact v_iret X hlk hrt (dk D_Mi_cutOut 53 rfl) ⟨by rw [hct]; rfl, sm.rf _ _, by rw [hct, Option.getD_some, if_neg (fun z => z.2.1 c61), List.append_nil]; exact hR⟩
          · refine v_iload_n X (dk D_Mi_cutOut 33 rfl) rfl ?_
            refine v_if_le (tgt := 99) X (dk D_Mi_cutOut 34 rfl) (by decide) (fun c65 => ?_) (fun c65 => ?_)
            · refine v_iconst (v := 0) X (dk D_Mi_cutOut 52 rfl) (by decide) ?_
              exact v_iret X hlk hrt (dk D_Mi_cutOut 53 rfl) ⟨by rw [hct]; rfl, sm.rf _ _, by rw [hct, Option.getD_some, if_neg (fun z => z.2.2 c65), List.append_nil]; exact hR⟩
            · obtain ⟨a, ha1, rfl⟩ := nI_of c56
              have ha2 : a < (f.2.1.getD 0 []).length := Decidable.byContradiction (fun z => c61 (nI_le (by omega) (by omega)))
              obtain ⟨k, hk, hz⟩ : ∃ k, a + k ≤ (f.2.1.getD 0 []).length ∧ (if nI (f.2.1.getD 0 []).length - nI a < Y then nI (f.2.1.getD 0 []).length - nI a else Y) = nI k := by
                rw [pk_sub (by omega)]
                by_cases hlt : nI ((f.2.1.getD 0 []).length - a) < Y
                · exact ⟨(f.2.1.getD 0 []).length - a, by omega, if_pos hlt⟩
                · obtain ⟨b, hb, rfl⟩ := nI_of (fun z => c65 (Int32.le_of_lt z))
                  exact ⟨b, by have : ¬ ((f.2.1.getD 0 []).length - a) < b := fun z => hlt (nI_lt z hb); omega, if_neg hlt⟩
              refine v_aload_n X (dk D_Mi_cutOut 35 rfl) rfl ?_
              refine v_getF X (dk D_Mi_cutOut 36 rfl) F_Mi_24 rfl rfl (hS.lt (by decide)) (hS.2 0 2) ?_
              refine v_aload_n X (dk D_Mi_cutOut 37 rfl) rfl ?_
              refine v_getF X (dk D_Mi_cutOut 38 rfl) F_Mi_37 rfl rfl (hS.lt (by decide)) (hS.2 0 4) ?_
              refine v_getF X (dk D_Mi_cutOut 39 rfl) F_Mi_219 rfl rfl (hS.lt (by decide)) (hS.2 17 0) ?_
              refine v_aload_n X (dk D_Mi_cutOut 40 rfl) rfl ?_
              refine v_getF X (dk D_Mi_cutOut 41 rfl) F_Mi_37 rfl rfl (hS.lt (by decide)) (hS.2 0 4) ?_
              refine v_iconst (v := nI 0) X (dk D_Mi_cutOut 42 rfl) (by decide) ?_
              refine v_invV (As := [.int (nI 0)]) (st := [.ref 18, .ref 5]) X (k_start l q (i := 0) hS hC (by decide)) (dk D_Mi_cutOut 43 rfl) G_Mi_283 K_Ca_start V_Ca_start rfl rfl (hS.lt (by decide)) rfl rfl (Nat.le_of_ble_eq_true rfl) (Nat.le_of_ble_eq_true rfl) (Nat.le_of_ble_eq_true rfl) (Nat.le_of_ble_eq_true rfl) (Nat.le_of_ble_eq_true rfl) ?_
              rintro v ws ⟨rfl, hws⟩
              rw [hws]
              show Vv _ _ _ _ _ _ _ _ _ _ _ _ _ _ _ [.int (nI (stA f r 0)), .ref 18, .ref 5] (0, 0, g)
              refine v_iload_n X (dk D_Mi_cutOut 44 rfl) rfl ?_
              refine v_iadd X (dk D_Mi_cutOut 45 rfl) ?_
              rw [nI_add]
              refine v_iload_n X (dk D_Mi_cutOut 46 rfl) rfl ?_
              refine v_iload_n X (dk D_Mi_cutOut 47 rfl) rfl ?_
              refine v_iload_n X (dk D_Mi_cutOut 48 rfl) rfl ?_
              refine v_isub X (dk D_Mi_cutOut 49 rfl) ?_
              refine v_min (z := nI k) X (dk D_Mi_cutOut 50 rfl) G_Mi_373 W_minS W_mathI W_minC (Nat.le_of_ble_eq_true rfl) (Nat.le_of_ble_eq_true rfl) (Nat.le_of_ble_eq_true rfl) hz ?_
              refine v_invV (As := [.ref 18, .int (nI (stA f r 0 + a)), .int (nI k)]) (st := []) X (kr_addPart l q (f := stA f r 0 + a) (k := k) hR hC.1 (by have := ag_le (f := f) (r := r) 0; omega) (by decide) hfb) (dk D_Mi_cutOut 51 rfl) G_Mi_73 K_By_addPart V_By_addPart rfl rfl (hS.lt (by decide)) rfl rfl (Nat.le_of_ble_eq_true rfl) (Nat.le_of_ble_eq_true rfl) (Nat.le_of_ble_eq_true rfl) (Nat.le_of_ble_eq_true rfl) (Nat.le_of_ble_eq_true rfl) ?_
              rintro v w ⟨rfl, y1, y2⟩
              rw [sub_sl (by omega)] at y2
              show Vv _ _ _ _ _ _ _ _ _ _ _ _ _ _ _ [] (0, 0, w.2.2)
              refine v_iconst (v := 0) X (dk D_Mi_cutOut 52 rfl) (by decide) ?_
              exact v_iret X hlk hrt (dk D_Mi_cutOut 53 rfl) ⟨by rw [hct]; rfl, y1, by rw [hct, Option.getD_some, if_pos ⟨nI_pos (by omega), c61, c65⟩, hz, nI_clamp (by omega), nI_clamp (by omega)]; exact y2⟩
  refine v_aload_n X (dk D_Mi_cutOut 0 rfl) rfl ?_
  refine v_iconst (v := nI 1) X (dk D_Mi_cutOut 1 rfl) (by decide) ?_
  refine v_invV (As := [.int (nI 1)]) (st := []) X (k_number l q (i := 1) hS hC (by decide)) (dk D_Mi_cutOut 2 rfl) G_Mi_361 K_Mi_number V_Mi_number rfl rfl (hS.lt (by decide)) rfl rfl (Nat.le_of_ble_eq_true rfl) (Nat.le_of_ble_eq_true rfl) (Nat.le_of_ble_eq_true rfl) (Nat.le_of_ble_eq_true rfl) (Nat.le_of_ble_eq_true rfl) ?_
  rintro v ws ⟨rfl, hws⟩
  rw [hws]
  show Vv _ _ _ _ _ _ _ _ _ _ _ _ _ _ _ [.int ((nmX (f.2.1.getD 1 [])).getD (-2147483648))] (0, 0, g)
  refine v_istore_n (lb := [some (.ref 0), some (.int ((nmX (f.2.1.getD 1 [])).getD (-2147483648))), none, none]) X (dk D_Mi_cutOut 3 rfl) (by decide) rfl ?_
  refine v_aload_n X (dk D_Mi_cutOut 4 rfl) rfl ?_
  refine v_getF X (dk D_Mi_cutOut 5 rfl) F_Mi_37 rfl rfl (hS.lt (by decide)) (hS.2 0 4) ?_
  refine v_invV (As := []) (st := []) X (k_arguments l q hS hC) (dk D_Mi_cutOut 6 rfl) G_Mi_273 K_Ca_arguments V_Ca_arguments rfl rfl (hS.lt (by decide)) rfl rfl (Nat.le_of_ble_eq_true rfl) (Nat.le_of_ble_eq_true rfl) (Nat.le_of_ble_eq_true rfl) (Nat.le_of_ble_eq_true rfl) (Nat.le_of_ble_eq_true rfl) ?_
  rintro v ws ⟨rfl, hws⟩
  rw [hws]
  show Vv _ _ _ _ _ _ _ _ _ _ _ _ _ _ _ [.int (nI f.2.1.length)] (0, 0, g)
  refine v_iconst (v := 2) X (dk D_Mi_cutOut 7 rfl) (by decide) ?_
  refine v_icmp_le (tgt := 25) X (dk D_Mi_cutOut 8 rfl) (by decide) (fun c14 => ?_) (fun c14 => ?_)
  · refine v_sipush (v := 16384) X (dk D_Mi_cutOut 13 rfl) (by decide) ?_
    refine v_istore_n (lb := [some (.ref 0), some (.int ((nmX (f.2.1.getD 1 [])).getD (-2147483648))), some (.int 16384), none]) X (dk D_Mi_cutOut 14 rfl) (by decide) rfl ?_
    exact tail 16384 (some 16384) ⟨fun z => (by cases z), fun z => absurd z (by decide)⟩ (fun y h => (by cases h; rfl)) (by rw [ctX, if_neg (fun z => absurd c14 (nI_ge (b := f.2.1.length) (a := 2) z (by omega)))])
  · refine v_aload_n X (dk D_Mi_cutOut 9 rfl) rfl ?_
    refine v_iconst (v := nI 2) X (dk D_Mi_cutOut 10 rfl) (by decide) ?_
    refine v_invV (As := [.int (nI 2)]) (st := []) X (k_number l q (i := 2) hS hC (by decide)) (dk D_Mi_cutOut 11 rfl) G_Mi_361 K_Mi_number V_Mi_number rfl rfl (hS.lt (by decide)) rfl rfl (Nat.le_of_ble_eq_true rfl) (Nat.le_of_ble_eq_true rfl) (Nat.le_of_ble_eq_true rfl) (Nat.le_of_ble_eq_true rfl) (Nat.le_of_ble_eq_true rfl) ?_
    rintro v ws ⟨rfl, hws⟩
    rw [hws]
    show Vv _ _ _ _ _ _ _ _ _ _ _ _ _ _ _ [.int ((nmX (f.2.1.getD 2 [])).getD (-2147483648))] (0, 0, g)
    refine v_goto (tgt := 28) X (dk D_Mi_cutOut 12 rfl) (by decide) ?_
    refine v_istore_n (lb := [some (.ref 0), some (.int ((nmX (f.2.1.getD 1 [])).getD (-2147483648))), some (.int ((nmX (f.2.1.getD 2 [])).getD (-2147483648))), none]) X (dk D_Mi_cutOut 14 rfl) (by decide) rfl ?_
    exact tail ((nmX (f.2.1.getD 2 [])).getD (-2147483648)) (nmX (f.2.1.getD 2 [])) nmX_no.symm (fun y h => by rw [h]; rfl) (by rw [ctX, if_pos (Decidable.byContradiction (fun z => c14 (nI_le (b := 2) (by omega) (by decide))))])
set_option maxHeartbeats 4000000 in
set_option maxRecDepth 100000 in
theorem k_changeQuotes (l : Launch) (q : ev_T) {op cl : List Int32} {oo oc : Bool} {f : Fr} {r : List Fr} {cm : Bool} {g : mu_T} (hS : Shp g) (hC : CA g (f :: r) cm) (hO : RB g 8 9 4 op oo) (hQ : RB g 10 11 4 cl oc) : Ctr l q M_Mi_changeQuotes 3 [.ref 0] (0, 0, g) (fun v w => v = some (.int (if (cqX f.2.1).isSome = true then 0 else 37)) ∧ sm g w.2.2 [8, 9, 10, 11] ∧ ∃ oo oc, RB w.2.2 8 9 4 ((cqX f.2.1).getD (op, cl)).1 oo ∧ RB w.2.2 10 11 4 ((cqX f.2.1).getD (op, cl)).2 oc) := by
  have hna : f.2.1.length ≤ 8192 := Nat.le_trans (na_le (f := f) (r := r)) hC.2.2.2.2.2.1
  refine Ctr.mk (lb := [some (.ref 0)]) (by decide +kernel) (Nat.le_of_ble_eq_true rfl) rfl rfl ?_
  intro pp ee ss mm aa bb mt cd X hrt hlk hnm
  refine v_aload_n X (dk D_Mi_changeQuotes 0 rfl) rfl ?_
  refine v_getF X (dk D_Mi_changeQuotes 1 rfl) F_Mi_37 rfl rfl (hS.lt (by decide)) (hS.2 0 4) ?_
  refine v_invV (As := []) (st := []) X (k_arguments l q hS hC) (dk D_Mi_changeQuotes 2 rfl) G_Mi_273 K_Ca_arguments V_Ca_arguments rfl rfl (hS.lt (by decide)) rfl rfl (Nat.le_of_ble_eq_true rfl) (Nat.le_of_ble_eq_true rfl) (Nat.le_of_ble_eq_true rfl) (Nat.le_of_ble_eq_true rfl) (Nat.le_of_ble_eq_true rfl) ?_
  rintro v ws ⟨rfl, hws⟩
  rw [hws]
  show Vv _ _ _ _ _ _ _ _ _ _ _ _ _ _ _ [.int (nI f.2.1.length)] (0, 0, g)
  refine v_if_ne (tgt := 19) X (dk D_Mi_changeQuotes 3 rfl) (by decide) (fun c7 => ?_) (fun c7 => ?_)
  · refine v_aload_n X (dk D_Mi_changeQuotes 9 rfl) rfl ?_
    refine v_aload_n X (dk D_Mi_changeQuotes 10 rfl) rfl ?_
    refine v_getF X (dk D_Mi_changeQuotes 11 rfl) F_Mi_37 rfl rfl (hS.lt (by decide)) (hS.2 0 4) ?_
    refine v_iconst (v := nI 0) X (dk D_Mi_changeQuotes 12 rfl) (by decide) ?_
    refine v_invV (As := [.int (nI 0)]) (st := [.ref 0]) X (k_start l q (i := 0) hS hC (by decide)) (dk D_Mi_changeQuotes 13 rfl) G_Mi_283 K_Ca_start V_Ca_start rfl rfl (hS.lt (by decide)) rfl rfl (Nat.le_of_ble_eq_true rfl) (Nat.le_of_ble_eq_true rfl) (Nat.le_of_ble_eq_true rfl) (Nat.le_of_ble_eq_true rfl) (Nat.le_of_ble_eq_true rfl) ?_
    rintro v ws ⟨rfl, hws⟩
    rw [hws]
    show Vv _ _ _ _ _ _ _ _ _ _ _ _ _ _ _ [.int (nI (stA f r 0)), .ref 0] (0, 0, g)
    refine v_aload_n X (dk D_Mi_changeQuotes 14 rfl) rfl ?_
    refine v_getF X (dk D_Mi_changeQuotes 15 rfl) F_Mi_37 rfl rfl (hS.lt (by decide)) (hS.2 0 4) ?_
    refine v_iconst (v := nI 0) X (dk D_Mi_changeQuotes 16 rfl) (by decide) ?_
    refine v_invV (As := [.int (nI 0)]) (st := [.int (nI (stA f r 0)), .ref 0]) X (k_length l q (i := 0) hS hC (by decide)) (dk D_Mi_changeQuotes 17 rfl) G_Mi_286 K_Ca_length V_Ca_length rfl rfl (hS.lt (by decide)) rfl rfl (Nat.le_of_ble_eq_true rfl) (Nat.le_of_ble_eq_true rfl) (Nat.le_of_ble_eq_true rfl) (Nat.le_of_ble_eq_true rfl) (Nat.le_of_ble_eq_true rfl) ?_
    rintro v ws ⟨rfl, hws⟩
    rw [hws]
    show Vv _ _ _ _ _ _ _ _ _ _ _ _ _ _ _ [.int (nI (f.2.1.getD 0 []).length), .int (nI (stA f r 0)), .ref 0] (0, 0, g)
    refine v_invV (As := [.int (nI (stA f r 0)), .int (nI (f.2.1.getD 0 []).length)]) (st := []) X (k_isQuote l q hS hC.1 (ag_le 0)) (dk D_Mi_changeQuotes 18 rfl) G_Mi_388 K_Mi_isQuote V_Mi_isQuote rfl rfl (hS.lt (by decide)) rfl rfl (Nat.le_of_ble_eq_true rfl) (Nat.le_of_ble_eq_true rfl) (Nat.le_of_ble_eq_true rfl) (Nat.le_of_ble_eq_true rfl) (Nat.le_of_ble_eq_true rfl) ?_
    rintro v ws ⟨rfl, hws⟩
    rw [hws, hl_slice]
    show Vv _ _ _ _ _ _ _ _ _ _ _ _ _ _ _ [.int (if isQt (f.2.1.getD 0 []) = true then 1 else 0)] (0, 0, g)
    refine v_if_eq (tgt := 65) X (dk D_Mi_changeQuotes 19 rfl) (by decide) (fun c39 => ?_) (fun c39 => ?_)
    · refine v_bipush (v := 37) X (dk D_Mi_changeQuotes 31 rfl) (by decide) ?_
      exact v_iret X hlk hrt (dk D_Mi_changeQuotes 32 rfl) ⟨by rw [cqX, if_neg (show ¬ f.2.1.length = 0 from fun z => c7 (by rw [z]; rfl)), if_neg (show ¬ (isQt (f.2.1.getD 0 []) = true ∧ isQt (f.2.1.getD 1 []) = true) from fun z => absurd c39 (by rw [if_pos z.1]; decide))]; rfl, sm.rf _ _, oo, oc, by rw [cqX, if_neg (show ¬ f.2.1.length = 0 from fun z => c7 (by rw [z]; rfl)), if_neg (show ¬ (isQt (f.2.1.getD 0 []) = true ∧ isQt (f.2.1.getD 1 []) = true) from fun z => absurd c39 (by rw [if_pos z.1]; decide))]; exact hO, by rw [cqX, if_neg (show ¬ f.2.1.length = 0 from fun z => c7 (by rw [z]; rfl)), if_neg (show ¬ (isQt (f.2.1.getD 0 []) = true ∧ isQt (f.2.1.getD 1 []) = true) from fun z => absurd c39 (by rw [if_pos z.1]; decide))]; exact hQ⟩
    · refine v_aload_n X (dk D_Mi_changeQuotes 20 rfl) rfl ?_
      refine v_aload_n X (dk D_Mi_changeQuotes 21 rfl) rfl ?_
      refine v_getF X (dk D_Mi_changeQuotes 22 rfl) F_Mi_37 rfl rfl (hS.lt (by decide)) (hS.2 0 4) ?_
      refine v_iconst (v := nI 1) X (dk D_Mi_changeQuotes 23 rfl) (by decide) ?_
      refine v_invV (As := [.int (nI 1)]) (st := [.ref 0]) X (k_start l q (i := 1) hS hC (by decide)) (dk D_Mi_changeQuotes 24 rfl) G_Mi_283 K_Ca_start V_Ca_start rfl rfl (hS.lt (by decide)) rfl rfl (Nat.le_of_ble_eq_true rfl) (Nat.le_of_ble_eq_true rfl) (Nat.le_of_ble_eq_true rfl) (Nat.le_of_ble_eq_true rfl) (Nat.le_of_ble_eq_true rfl) ?_
      rintro v ws ⟨rfl, hws⟩
      rw [hws]
      show Vv _ _ _ _ _ _ _ _ _ _ _ _ _ _ _ [.int (nI (stA f r 1)), .ref 0] (0, 0, g)
      refine v_aload_n X (dk D_Mi_changeQuotes 25 rfl) rfl ?_
      refine v_getF X (dk D_Mi_changeQuotes 26 rfl) F_Mi_37 rfl rfl (hS.lt (by decide)) (hS.2 0 4) ?_
      refine v_iconst (v := nI 1) X (dk D_Mi_changeQuotes 27 rfl) (by decide) ?_
      refine v_invV (As := [.int (nI 1)]) (st := [.int (nI (stA f r 1)), .ref 0]) X (k_length l q (i := 1) hS hC (by decide)) (dk D_Mi_changeQuotes 28 rfl) G_Mi_286 K_Ca_length V_Ca_length rfl rfl (hS.lt (by decide)) rfl rfl (Nat.le_of_ble_eq_true rfl) (Nat.le_of_ble_eq_true rfl) (Nat.le_of_ble_eq_true rfl) (Nat.le_of_ble_eq_true rfl) (Nat.le_of_ble_eq_true rfl) ?_
      rintro v ws ⟨rfl, hws⟩
      rw [hws]
      show Vv _ _ _ _ _ _ _ _ _ _ _ _ _ _ _ [.int (nI (f.2.1.getD 1 []).length), .int (nI (stA f r 1)), .ref 0] (0, 0, g)
      refine v_invV (As := [.int (nI (stA f r 1)), .int (nI (f.2.1.getD 1 []).length)]) (st := []) X (k_isQuote l q hS hC.1 (ag_le 1)) (dk D_Mi_changeQuotes 29 rfl) G_Mi_388 K_Mi_isQuote V_Mi_isQuote rfl rfl (hS.lt (by decide)) rfl rfl (Nat.le_of_ble_eq_true rfl) (Nat.le_of_ble_eq_true rfl) (Nat.le_of_ble_eq_true rfl) (Nat.le_of_ble_eq_true rfl) (Nat.le_of_ble_eq_true rfl) ?_
      rintro v ws ⟨rfl, hws⟩
      rw [hws, hl_slice]
      show Vv _ _ _ _ _ _ _ _ _ _ _ _ _ _ _ [.int (if isQt (f.2.1.getD 1 []) = true then 1 else 0)] (0, 0, g)
      refine v_if_ne (tgt := 68) X (dk D_Mi_changeQuotes 30 rfl) (by decide) (fun c62 => ?_) (fun c62 => ?_)
      · have hq : isQt (f.2.1.getD 0 []) = true ∧ isQt (f.2.1.getD 1 []) = true := ⟨Decidable.byContradiction (fun z => c39 (if_neg z)), Decidable.byContradiction (fun z => c62 (if_neg z))⟩
        have hcq : (cqX f.2.1) = some ((f.2.1.getD 0 []), (f.2.1.getD 1 [])) := by rw [cqX, if_neg (show ¬ f.2.1.length = 0 from fun z => c7 (by rw [z]; rfl)), if_pos hq]
        have hq0 := (of_decide_eq_true hq.1).2.1
        have hq1 := (of_decide_eq_true hq.2).2.1
        refine v_aload_n X (dk D_Mi_changeQuotes 33 rfl) rfl ?_
        refine v_getF X (dk D_Mi_changeQuotes 34 rfl) F_Mi_30 rfl rfl (hS.lt (by decide)) (hS.2 0 3) ?_
        refine v_getF X (dk D_Mi_changeQuotes 35 rfl) F_Mi_289 rfl rfl (hS.lt (by decide)) (hS.2 7 0) ?_
        refine v_iconst (v := 0) X (dk D_Mi_changeQuotes 36 rfl) (by decide) ?_
        refine v_invV (As := [.int 0]) (st := []) X (k_cut0 l q hO) (dk D_Mi_changeQuotes 37 rfl) G_Mi_77 K_By_cut V_By_cut rfl rfl (hS.lt (by decide)) rfl rfl (Nat.le_of_ble_eq_true rfl) (Nat.le_of_ble_eq_true rfl) (Nat.le_of_ble_eq_true rfl) (Nat.le_of_ble_eq_true rfl) (Nat.le_of_ble_eq_true rfl) ?_
        rintro v w1 ⟨rfl, a1, a2⟩
        have S1 := hS.sm a1
        have C1 := hC.sm a1 (by decide)
        show Vv _ _ _ _ _ _ _ _ _ _ _ _ _ _ _ [] (0, 0, w1.2.2)
        refine v_aload_n X (dk D_Mi_changeQuotes 38 rfl) rfl ?_
        refine v_getF X (dk D_Mi_changeQuotes 39 rfl) F_Mi_30 rfl rfl (S1.lt (by decide)) (S1.2 0 3) ?_
        refine v_getF X (dk D_Mi_changeQuotes 40 rfl) F_Mi_289 rfl rfl (S1.lt (by decide)) (S1.2 7 0) ?_
        refine v_aload_n X (dk D_Mi_changeQuotes 41 rfl) rfl ?_
        refine v_getF X (dk D_Mi_changeQuotes 42 rfl) F_Mi_37 rfl rfl (S1.lt (by decide)) (S1.2 0 4) ?_
        refine v_getF X (dk D_Mi_changeQuotes 43 rfl) F_Mi_219 rfl rfl (S1.lt (by decide)) (S1.2 17 0) ?_
        refine v_aload_n X (dk D_Mi_changeQuotes 44 rfl) rfl ?_
        refine v_getF X (dk D_Mi_changeQuotes 45 rfl) F_Mi_37 rfl rfl (S1.lt (by decide)) (S1.2 0 4) ?_
        refine v_iconst (v := nI 0) X (dk D_Mi_changeQuotes 46 rfl) (by decide) ?_
        refine v_invV (As := [.int (nI 0)]) (st := [.ref 18, .ref 8]) X (k_start l q (i := 0) S1 C1 (by decide)) (dk D_Mi_changeQuotes 47 rfl) G_Mi_283 K_Ca_start V_Ca_start rfl rfl (S1.lt (by decide)) rfl rfl (Nat.le_of_ble_eq_true rfl) (Nat.le_of_ble_eq_true rfl) (Nat.le_of_ble_eq_true rfl) (Nat.le_of_ble_eq_true rfl) (Nat.le_of_ble_eq_true rfl) ?_
        rintro v ws ⟨rfl, hws⟩
        rw [hws]
        show Vv _ _ _ _ _ _ _ _ _ _ _ _ _ _ _ [.int (nI (stA f r 0)), .ref 18, .ref 8] (0, 0, w1.2.2)
        refine v_aload_n X (dk D_Mi_changeQuotes 48 rfl) rfl ?_
        refine v_getF X (dk D_Mi_changeQuotes 49 rfl) F_Mi_37 rfl rfl (S1.lt (by decide)) (S1.2 0 4) ?_
        refine v_iconst (v := nI 0) X (dk D_Mi_changeQuotes 50 rfl) (by decide) ?_
        refine v_invV (As := [.int (nI 0)]) (st := [.int (nI (stA f r 0)), .ref 18, .ref 8]) X (k_length l q (i := 0) S1 C1 (by decide)) (dk D_Mi_changeQuotes 51 rfl) G_Mi_286 K_Ca_length V_Ca_length rfl rfl (S1.lt (by decide)) rfl rfl (Nat.le_of_ble_eq_true rfl) (Nat.le_of_ble_eq_true rfl) (Nat.le_of_ble_eq_true rfl) (Nat.le_of_ble_eq_true rfl) (Nat.le_of_ble_eq_true rfl) ?_
        rintro v ws ⟨rfl, hws⟩
        rw [hws]
        show Vv _ _ _ _ _ _ _ _ _ _ _ _ _ _ _ [.int (nI (f.2.1.getD 0 []).length), .int (nI (stA f r 0)), .ref 18, .ref 8] (0, 0, w1.2.2)
        refine v_invV (As := [.ref 18, .int (nI (stA f r 0)), .int (nI (f.2.1.getD 0 []).length)]) (st := []) X (k_addPart l q (f := stA f r 0) (k := (f.2.1.getD 0 []).length) a2 C1.1 (ag_le 0) (by decide) (by decide)) (dk D_Mi_changeQuotes 52 rfl) G_Mi_73 K_By_addPart V_By_addPart rfl rfl (S1.lt (by decide)) rfl rfl (Nat.le_of_ble_eq_true rfl) (Nat.le_of_ble_eq_true rfl) (Nat.le_of_ble_eq_true rfl) (Nat.le_of_ble_eq_true rfl) (Nat.le_of_ble_eq_true rfl) ?_
        rintro v w2 ⟨rfl, b1, b2⟩
        rw [if_neg (fun z => z.elim (fun z => by cases z) (fun z => by rw [List.length_nil] at z; omega)), List.nil_append, hl_slice] at b2
        have zb := a1.tr b1 (U := [8, 9]) (by simp) (by simp)
        have S2 := hS.sm zb
        show Vv _ _ _ _ _ _ _ _ _ _ _ _ _ _ _ [] (0, 0, w2.2.2)
        refine v_aload_n X (dk D_Mi_changeQuotes 53 rfl) rfl ?_
        refine v_getF X (dk D_Mi_changeQuotes 54 rfl) F_Mi_30 rfl rfl (S2.lt (by decide)) (S2.2 0 3) ?_
        refine v_getF X (dk D_Mi_changeQuotes 55 rfl) F_Mi_292 rfl rfl (S2.lt (by decide)) (S2.2 7 1) ?_
        refine v_iconst (v := 0) X (dk D_Mi_changeQuotes 56 rfl) (by decide) ?_
        refine v_invV (As := [.int 0]) (st := []) X (k_cut0 l q (hQ.sm zb (by decide) (by decide))) (dk D_Mi_changeQuotes 57 rfl) G_Mi_77 K_By_cut V_By_cut rfl rfl (S2.lt (by decide)) rfl rfl (Nat.le_of_ble_eq_true rfl) (Nat.le_of_ble_eq_true rfl) (Nat.le_of_ble_eq_true rfl) (Nat.le_of_ble_eq_true rfl) (Nat.le_of_ble_eq_true rfl) ?_
        rintro v w3 ⟨rfl, c1, c2⟩
        have zc := zb.tr c1 (U := [8, 9, 10]) (by simp) (by simp)
        have S3 := hS.sm zc
        have C3 := hC.sm zc (by decide)
        show Vv _ _ _ _ _ _ _ _ _ _ _ _ _ _ _ [] (0, 0, w3.2.2)
        refine v_aload_n X (dk D_Mi_changeQuotes 58 rfl) rfl ?_
        refine v_getF X (dk D_Mi_changeQuotes 59 rfl) F_Mi_30 rfl rfl (S3.lt (by decide)) (S3.2 0 3) ?_
        refine v_getF X (dk D_Mi_changeQuotes 60 rfl) F_Mi_292 rfl rfl (S3.lt (by decide)) (S3.2 7 1) ?_
        refine v_aload_n X (dk D_Mi_changeQuotes 61 rfl) rfl ?_
        refine v_getF X (dk D_Mi_changeQuotes 62 rfl) F_Mi_37 rfl rfl (S3.lt (by decide)) (S3.2 0 4) ?_
        refine v_getF X (dk D_Mi_changeQuotes 63 rfl) F_Mi_219 rfl rfl (S3.lt (by decide)) (S3.2 17 0) ?_
        refine v_aload_n X (dk D_Mi_changeQuotes 64 rfl) rfl ?_
        refine v_getF X (dk D_Mi_changeQuotes 65 rfl) F_Mi_37 rfl rfl (S3.lt (by decide)) (S3.2 0 4) ?_
        refine v_iconst (v := nI 1) X (dk D_Mi_changeQuotes 66 rfl) (by decide) ?_
        refine v_invV (As := [.int (nI 1)]) (st := [.ref 18, .ref 10]) X (k_start l q (i := 1) S3 C3 (by decide)) (dk D_Mi_changeQuotes 67 rfl) G_Mi_283 K_Ca_start V_Ca_start rfl rfl (S3.lt (by decide)) rfl rfl (Nat.le_of_ble_eq_true rfl) (Nat.le_of_ble_eq_true rfl) (Nat.le_of_ble_eq_true rfl) (Nat.le_of_ble_eq_true rfl) (Nat.le_of_ble_eq_true rfl) ?_
        rintro v ws ⟨rfl, hws⟩
        rw [hws]
        show Vv _ _ _ _ _ _ _ _ _ _ _ _ _ _ _ [.int (nI (stA f r 1)), .ref 18, .ref 10] (0, 0, w3.2.2)
        refine v_aload_n X (dk D_Mi_changeQuotes 68 rfl) rfl ?_
        refine v_getF X (dk D_Mi_changeQuotes 69 rfl) F_Mi_37 rfl rfl (S3.lt (by decide)) (S3.2 0 4) ?_
        refine v_iconst (v := nI 1) X (dk D_Mi_changeQuotes 70 rfl) (by decide) ?_
        refine v_invV (As := [.int (nI 1)]) (st := [.int (nI (stA f r 1)), .ref 18, .ref 10]) X (k_length l q (i := 1) S3 C3 (by decide)) (dk D_Mi_changeQuotes 71 rfl) G_Mi_286 K_Ca_length V_Ca_length rfl rfl (S3.lt (by decide)) rfl rfl (Nat.le_of_ble_eq_true rfl) (Nat.le_of_ble_eq_true rfl) (Nat.le_of_ble_eq_true rfl) (Nat.le_of_ble_eq_true rfl) (Nat.le_of_ble_eq_true rfl) ?_
        rintro v ws ⟨rfl, hws⟩
        rw [hws]
        show Vv _ _ _ _ _ _ _ _ _ _ _ _ _ _ _ [.int (nI (f.2.1.getD 1 []).length), .int (nI (stA f r 1)), .ref 18, .ref 10] (0, 0, w3.2.2)
        refine v_invV (As := [.ref 18, .int (nI (stA f r 1)), .int (nI (f.2.1.getD 1 []).length)]) (st := []) X (k_addPart l q (f := stA f r 1) (k := (f.2.1.getD 1 []).length) c2 C3.1 (ag_le 1) (by decide) (by decide)) (dk D_Mi_changeQuotes 72 rfl) G_Mi_73 K_By_addPart V_By_addPart rfl rfl (S3.lt (by decide)) rfl rfl (Nat.le_of_ble_eq_true rfl) (Nat.le_of_ble_eq_true rfl) (Nat.le_of_ble_eq_true rfl) (Nat.le_of_ble_eq_true rfl) (Nat.le_of_ble_eq_true rfl) ?_
        rintro v w4 ⟨rfl, d1, d2⟩
        rw [if_neg (fun z => z.elim (fun z => by cases z) (fun z => by rw [List.length_nil] at z; omega)), List.nil_append, hl_slice] at d2
        show Vv _ _ _ _ _ _ _ _ _ _ _ _ _ _ _ [] (0, 0, w4.2.2)
        refine v_iconst (v := 0) X (dk D_Mi_changeQuotes 73 rfl) (by decide) ?_
        exact v_iret X hlk hrt (dk D_Mi_changeQuotes 74 rfl) ⟨by rw [hcq]; rfl, (zc.tr d1 (U := [8, 9, 10, 11]) (by simp) (by simp)), _, _, by rw [hcq]; exact (b2.sm c1 (by decide) (by decide)).sm d1 (by decide) (by decide), by rw [hcq]; exact d2⟩
      · refine v_bipush (v := 37) X (dk D_Mi_changeQuotes 31 rfl) (by decide) ?_
        exact v_iret X hlk hrt (dk D_Mi_changeQuotes 32 rfl) ⟨by rw [cqX, if_neg (show ¬ f.2.1.length = 0 from fun z => c7 (by rw [z]; rfl)), if_neg (show ¬ (isQt (f.2.1.getD 0 []) = true ∧ isQt (f.2.1.getD 1 []) = true) from fun z => absurd c62 (by rw [if_pos z.2]; decide))]; rfl, sm.rf _ _, oo, oc, by rw [cqX, if_neg (show ¬ f.2.1.length = 0 from fun z => c7 (by rw [z]; rfl)), if_neg (show ¬ (isQt (f.2.1.getD 0 []) = true ∧ isQt (f.2.1.getD 1 []) = true) from fun z => absurd c62 (by rw [if_pos z.2]; decide))]; exact hO, by rw [cqX, if_neg (show ¬ f.2.1.length = 0 from fun z => c7 (by rw [z]; rfl)), if_neg (show ¬ (isQt (f.2.1.getD 0 []) = true ∧ isQt (f.2.1.getD 1 []) = true) from fun z => absurd c62 (by rw [if_pos z.2]; decide))]; exact hQ⟩
  · have hz0 : (cqX f.2.1) = some ([96], [39]) := by rw [cqX, if_pos ((nI_eq (b := 0) (by omega) (by decide)).mp c7)]
    refine v_aload_n X (dk D_Mi_changeQuotes 4 rfl) rfl ?_
    refine v_getF X (dk D_Mi_changeQuotes 5 rfl) F_Mi_30 rfl rfl (hS.lt (by decide)) (hS.2 0 3) ?_
    refine v_invV (As := []) (st := []) X (k_useFirstQuotes l q hS hO hQ) (dk D_Mi_changeQuotes 6 rfl) G_Mi_385 K_In_useFirstQuotes V_In_useFirstQuotes rfl rfl (hS.lt (by decide)) rfl rfl (Nat.le_of_ble_eq_true rfl) (Nat.le_of_ble_eq_true rfl) (Nat.le_of_ble_eq_true rfl) (Nat.le_of_ble_eq_true rfl) (Nat.le_of_ble_eq_true rfl) ?_
    rintro v w ⟨rfl, y1, y2, y3⟩
    show Vv _ _ _ _ _ _ _ _ _ _ _ _ _ _ _ [] (0, 0, w.2.2)
    refine v_iconst (v := 0) X (dk D_Mi_changeQuotes 7 rfl) (by decide) ?_
    exact v_iret X hlk hrt (dk D_Mi_changeQuotes 8 rfl) ⟨by rw [hz0]; rfl, y1, false, false, by rw [hz0]; exact y2, by rw [hz0]; exact y3⟩
