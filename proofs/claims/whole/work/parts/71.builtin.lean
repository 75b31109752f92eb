/-! built-in macros: define, undefine, ifdef, ifelse, incr -/
/-- the name loses its top meaning, or all of them -/
def tkO (all : Bool) (S : Mng × Nat × Nat) (nm : List Int32) : Mng × Nat × Nat := (pu S.1 nm ((S.1 nm).drop (if all = true then (S.1 nm).length else 1)), unA nm (if all = true then S.1 nm else (S.1 nm).take 1) S.2)
def ifX : List (List Int32) → List Int32
  | a :: b :: c :: t => if a = b then c else match t with
    | [d] => d
    | [d, _] => d
    | t => ifX t
  | _ => []
theorem MA_5 : ∀ a ∈ [5, 6], a ∉ MA := fun a ha => by rw [MA_mem]; simp at ha; omega
theorem MA_CS : ∀ a ∈ CS, a ∉ MA := fun a ha => by rw [MA_mem]; simp [CS] at ha; omega
set_option maxHeartbeats 4000000 in
set_option maxRecDepth 100000 in
theorem k_isQuote (l : Launch) (q : ev_T) {st n : Nat} {xs : List Int32} {ov : Bool} {g : mu_T} (hS : Shp g) (hY : RB g 18 19 16384 xs ov) (hsn : st + n ≤ xs.length) : Ctr l q M_Mi_isQuote 2 [.ref 0, .int (nI st), .int (nI n)] (0, 0, g) (fun v w => v = some (.int (if isQt ((xs.drop st).take n) = true then 1 else 0)) ∧ w.2.2 = g) := by
  have hyn := hY.2.1
  have hal := sl_len (xs := xs) hsn
  refine Ctr.mk (lb := [some (.ref 0), some (.int (nI st)), some (.int (nI n)), none, none]) (by decide +kernel) (Nat.le_of_ble_eq_true rfl) rfl rfl ?_
  intro pp ee ss mm aa bb mt cd X hrt hlk hnm
  have loop : 1 ≤ n → n ≤ 4 → ∀ (d k : Nat), k + d = n → (∀ j, j < k → qtB (((xs.drop st).take n).getD j 0 &&& 255) = true) → Vv pp l ee (rmT 2 0 0) ss mm aa bb mt cd 5 q (MQ bb (Qw q (fun v w => v = some (.int (if isQt ((xs.drop st).take n) = true then 1 else 0)) ∧ w.2.2 = g)) aa ss 0 0 (fun a => q.1 ≤ a)) 14 [some (.ref 0), some (.int (nI st)), some (.int (nI n)), some (.int (nI k)), none] [] (0, 0, g) := by
    intro hn1 hn4 d
    induction d with
    | zero =>
      intro k hkd hm
      refine v_iload_n X (dk D_Mi_isQuote 10 rfl) rfl ?_
      refine v_iload_n X (dk D_Mi_isQuote 11 rfl) rfl ?_
      refine v_icmp_ge (tgt := 86) X (dk D_Mi_isQuote 12 rfl) (by decide) (fun _ => ?_) (fun c16 => absurd (nI_le (by omega) (by omega)) c16)
      refine v_iconst (v := 1) X (dk D_Mi_isQuote 43 rfl) (by decide) ?_
      exact v_zret X hlk hrt rfl (dk D_Mi_isQuote 44 rfl) ⟨by rw [if_pos (show isQt ((xs.drop st).take n) = true from decide_eq_true ⟨by rw [hal]; omega, by rw [hal]; omega, fun j hj => hm j (by rw [hal] at hj; omega)⟩)], rfl⟩
    | succ d ih =>
      intro k hkd hm
      refine v_iload_n X (dk D_Mi_isQuote 10 rfl) rfl ?_
      refine v_iload_n X (dk D_Mi_isQuote 11 rfl) rfl ?_
      refine v_icmp_ge (tgt := 86) X (dk D_Mi_isQuote 12 rfl) (by decide) (fun c16 => absurd c16 (nI_ge (by omega) (by omega))) (fun _ => ?_)
      refine v_aload_n X (dk D_Mi_isQuote 13 rfl) rfl ?_
      refine v_getF X (dk D_Mi_isQuote 14 rfl) F_Mi_37 rfl rfl (hS.lt (by decide)) (hS.2 0 4) ?_
      refine v_getF X (dk D_Mi_isQuote 15 rfl) F_Mi_219 rfl rfl (hS.lt (by decide)) (hS.2 17 0) ?_
      refine v_iload_n X (dk D_Mi_isQuote 16 rfl) rfl ?_
      refine v_iload_n X (dk D_Mi_isQuote 17 rfl) rfl ?_
      refine v_iadd X (dk D_Mi_isQuote 18 rfl) ?_
      rw [nI_add]
      refine v_invV (As := [.int (nI (st + k))]) (st := []) X (k_at l q hY) (dk D_Mi_isQuote 19 rfl) G_Mi_119 K_By_at V_By_at rfl rfl (hS.lt (by decide)) rfl rfl (Nat.le_of_ble_eq_true rfl) (Nat.le_of_ble_eq_true rfl) (Nat.le_of_ble_eq_true rfl) (Nat.le_of_ble_eq_true rfl) (Nat.le_of_ble_eq_true rfl) ?_
      rintro v ws ⟨rfl, hws⟩
      rw [hws, atL_nI (show (st + k) < xs.length by omega) (by omega)]
      show Vv _ _ _ _ _ _ _ _ _ _ _ _ _ _ _ [.int (xs.getD (st + k) 0 &&& 255)] (0, 0, g)
      refine v_istore (lb := [some (.ref 0), some (.int (nI st)), some (.int (nI n)), some (.int (nI k)), some (.int (xs.getD (st + k) 0 &&& 255))]) X (dk D_Mi_isQuote 20 rfl) (by decide) rfl ?_
      refine v_iload X (dk D_Mi_isQuote 21 rfl) rfl ?_
      refine v_invS (As := [.int (xs.getD (st + k) 0 &&& 255)]) (st := []) X (k_isNamePart l q (b := (xs.getD (st + k) 0 &&& 255)) (g := g)) (dk D_Mi_isQuote 22 rfl) G_Mi_352 K_Mi_isNamePart S_Mi_isNamePart rfl rfl (Nat.le_of_ble_eq_true rfl) (Nat.le_of_ble_eq_true rfl) (Nat.le_of_ble_eq_true rfl) (Nat.le_of_ble_eq_true rfl) (Nat.le_of_ble_eq_true rfl) ?_
      rintro v ws ⟨rfl, hws⟩
      rw [hws]
      show Vv _ _ _ _ _ _ _ _ _ _ _ _ _ _ _ [.int (if isNam (xs.getD (st + k) 0 &&& 255) = true then 1 else 0)] (0, 0, g)
      refine v_if_ne (tgt := 78) X (dk D_Mi_isQuote 23 rfl) (by decide) (fun c39 => ?_) (fun c39 => ?_)
      · refine v_iconst (v := 0) X (dk D_Mi_isQuote 39 rfl) (by decide) ?_
        exact v_zret X hlk hrt rfl (dk D_Mi_isQuote 40 rfl) ⟨by first | rw [if_neg (fun e => by have h := (of_decide_eq_true e).2.2 k (by rw [hal]; omega); rw [sl_get (by omega)] at h; have h := of_decide_eq_true h; exact h.1 (Decidable.byContradiction (fun z => c39 (if_neg z))))] | rw [if_neg (fun e => by have h := (of_decide_eq_true e).2.2 k (by rw [hal]; omega); rw [sl_get (by omega)] at h; have h := of_decide_eq_true h; exact h.2.1 (Decidable.byContradiction (fun z => c47 (if_neg z))))] | rw [if_neg (fun e => by have h := (of_decide_eq_true e).2.2 k (by rw [hal]; omega); rw [sl_get (by omega)] at h; have h := of_decide_eq_true h; exact h.2.2.1 c54)] | rw [if_neg (fun e => by have h := (of_decide_eq_true e).2.2 k (by rw [hal]; omega); rw [sl_get (by omega)] at h; have h := of_decide_eq_true h; exact h.2.2.2.1 c61)] | rw [if_neg (fun e => by have h := (of_decide_eq_true e).2.2 k (by rw [hal]; omega); rw [sl_get (by omega)] at h; have h := of_decide_eq_true h; exact h.2.2.2.2.1 c68)] | rw [if_neg (fun e => by have h := (of_decide_eq_true e).2.2 k (by rw [hal]; omega); rw [sl_get (by omega)] at h; have h := of_decide_eq_true h; exact h.2.2.2.2.2 c75)], rfl⟩
      · refine v_iload X (dk D_Mi_isQuote 24 rfl) rfl ?_
        refine v_invS (As := [.int (xs.getD (st + k) 0 &&& 255)]) (st := []) X (k_isSpace l q (b := (xs.getD (st + k) 0 &&& 255)) (g := g)) (dk D_Mi_isQuote 25 rfl) G_Mi_203 K_Mi_isSpace S_Mi_isSpace rfl rfl (Nat.le_of_ble_eq_true rfl) (Nat.le_of_ble_eq_true rfl) (Nat.le_of_ble_eq_true rfl) (Nat.le_of_ble_eq_true rfl) (Nat.le_of_ble_eq_true rfl) ?_
        rintro v ws ⟨rfl, hws⟩
        rw [hws]
        show Vv _ _ _ _ _ _ _ _ _ _ _ _ _ _ _ [.int (if isSpc (xs.getD (st + k) 0 &&& 255) = true then 1 else 0)] (0, 0, g)
        refine v_if_ne (tgt := 78) X (dk D_Mi_isQuote 26 rfl) (by decide) (fun c47 => ?_) (fun c47 => ?_)
        · refine v_iconst (v := 0) X (dk D_Mi_isQuote 39 rfl) (by decide) ?_
          exact v_zret X hlk hrt rfl (dk D_Mi_isQuote 40 rfl) ⟨by first | rw [if_neg (fun e => by have h := (of_decide_eq_true e).2.2 k (by rw [hal]; omega); rw [sl_get (by omega)] at h; have h := of_decide_eq_true h; exact h.1 (Decidable.byContradiction (fun z => c39 (if_neg z))))] | rw [if_neg (fun e => by have h := (of_decide_eq_true e).2.2 k (by rw [hal]; omega); rw [sl_get (by omega)] at h; have h := of_decide_eq_true h; exact h.2.1 (Decidable.byContradiction (fun z => c47 (if_neg z))))] | rw [if_neg (fun e => by have h := (of_decide_eq_true e).2.2 k (by rw [hal]; omega); rw [sl_get (by omega)] at h; have h := of_decide_eq_true h; exact h.2.2.1 c54)] | rw [if_neg (fun e => by have h := (of_decide_eq_true e).2.2 k (by rw [hal]; omega); rw [sl_get (by omega)] at h; have h := of_decide_eq_true h; exact h.2.2.2.1 c61)] | rw [if_neg (fun e => by have h := (of_decide_eq_true e).2.2 k (by rw [hal]; omega); rw [sl_get (by omega)] at h; have h := of_decide_eq_true h; exact h.2.2.2.2.1 c68)] | rw [if_neg (fun e => by have h := (of_decide_eq_true e).2.2 k (by rw [hal]; omega); rw [sl_get (by omega)] at h; have h := of_decide_eq_true h; exact h.2.2.2.2.2 c75)], rfl⟩
        · refine v_iload X (dk D_Mi_isQuote 27 rfl) rfl ?_
          refine v_bipush (v := 35) X (dk D_Mi_isQuote 28 rfl) (by decide) ?_
          refine v_icmp_eq (tgt := 78) X (dk D_Mi_isQuote 29 rfl) (by decide) (fun c54 => ?_) (fun c54 => ?_)
          · refine v_iconst (v := 0) X (dk D_Mi_isQuote 39 rfl) (by decide) ?_
            exact v_zret X hlk hrt rfl (dk D_Mi_isQuote 40 rfl) ⟨by first | rw [if_neg (fun e => by have h := (of_decide_eq_true e).2.2 k (by rw [hal]; omega); rw [sl_get (by omega)] at h; have h := of_decide_eq_true h; exact h.1 (Decidable.byContradiction (fun z => c39 (if_neg z))))] | rw [if_neg (fun e => by have h := (of_decide_eq_true e).2.2 k (by rw [hal]; omega); rw [sl_get (by omega)] at h; have h := of_decide_eq_true h; exact h.2.1 (Decidable.byContradiction (fun z => c47 (if_neg z))))] | rw [if_neg (fun e => by have h := (of_decide_eq_true e).2.2 k (by rw [hal]; omega); rw [sl_get (by omega)] at h; have h := of_decide_eq_true h; exact h.2.2.1 c54)] | rw [if_neg (fun e => by have h := (of_decide_eq_true e).2.2 k (by rw [hal]; omega); rw [sl_get (by omega)] at h; have h := of_decide_eq_true h; exact h.2.2.2.1 c61)] | rw [if_neg (fun e => by have h := (of_decide_eq_true e).2.2 k (by rw [hal]; omega); rw [sl_get (by omega)] at h; have h := of_decide_eq_true h; exact h.2.2.2.2.1 c68)] | rw [if_neg (fun e => by have h := (of_decide_eq_true e).2.2 k (by rw [hal]; omega); rw [sl_get (by omega)] at h; have h := of_decide_eq_true h; exact h.2.2.2.2.2 c75)], rfl⟩
          · refine v_iload X (dk D_Mi_isQuote 30 rfl) rfl ?_
            refine v_bipush (v := 40) X (dk D_Mi_isQuote 31 rfl) (by decide) ?_
            refine v_icmp_eq (tgt := 78) X (dk D_Mi_isQuote 32 rfl) (by decide) (fun c61 => ?_) (fun c61 => ?_)
            · refine v_iconst (v := 0) X (dk D_Mi_isQuote 39 rfl) (by decide) ?_
              exact v_zret X hlk hrt rfl (dk D_Mi_isQuote 40 rfl) ⟨by first | rw [if_neg (fun e => by have h := (of_decide_eq_true e).2.2 k (by rw [hal]; omega); rw [sl_get (by omega)] at h; have h := of_decide_eq_true h; exact h.1 (Decidable.byContradiction (fun z => c39 (if_neg z))))] | rw [if_neg (fun e => by have h := (of_decide_eq_true e).2.2 k (by rw [hal]; omega); rw [sl_get (by omega)] at h; have h := of_decide_eq_true h; exact h.2.1 (Decidable.byContradiction (fun z => c47 (if_neg z))))] | rw [if_neg (fun e => by have h := (of_decide_eq_true e).2.2 k (by rw [hal]; omega); rw [sl_get (by omega)] at h; have h := of_decide_eq_true h; exact h.2.2.1 c54)] | rw [if_neg (fun e => by have h := (of_decide_eq_true e).2.2 k (by rw [hal]; omega); rw [sl_get (by omega)] at h; have h := of_decide_eq_true h; exact h.2.2.2.1 c61)] | rw [if_neg (fun e => by have h := (of_decide_eq_true e).2.2 k (by rw [hal]; omega); rw [sl_get (by omega)] at h; have h := of_decide_eq_true h; exact h.2.2.2.2.1 c68)] | rw [if_neg (fun e => by have h := (of_decide_eq_true e).2.2 k (by rw [hal]; omega); rw [sl_get (by omega)] at h; have h := of_decide_eq_true h; exact h.2.2.2.2.2 c75)], rfl⟩
            · refine v_iload X (dk D_Mi_isQuote 33 rfl) rfl ?_
              refine v_bipush (v := 41) X (dk D_Mi_isQuote 34 rfl) (by decide) ?_
              refine v_icmp_eq (tgt := 78) X (dk D_Mi_isQuote 35 rfl) (by decide) (fun c68 => ?_) (fun c68 => ?_)
              · refine v_iconst (v := 0) X (dk D_Mi_isQuote 39 rfl) (by decide) ?_
                exact v_zret X hlk hrt rfl (dk D_Mi_isQuote 40 rfl) ⟨by first | rw [if_neg (fun e => by have h := (of_decide_eq_true e).2.2 k (by rw [hal]; omega); rw [sl_get (by omega)] at h; have h := of_decide_eq_true h; exact h.1 (Decidable.byContradiction (fun z => c39 (if_neg z))))] | rw [if_neg (fun e => by have h := (of_decide_eq_true e).2.2 k (by rw [hal]; omega); rw [sl_get (by omega)] at h; have h := of_decide_eq_true h; exact h.2.1 (Decidable.byContradiction (fun z => c47 (if_neg z))))] | rw [if_neg (fun e => by have h := (of_decide_eq_true e).2.2 k (by rw [hal]; omega); rw [sl_get (by omega)] at h; have h := of_decide_eq_true h; exact h.2.2.1 c54)] | rw [if_neg (fun e => by have h := (of_decide_eq_true e).2.2 k (by rw [hal]; omega); rw [sl_get (by omega)] at h; have h := of_decide_eq_true h; exact h.2.2.2.1 c61)] | rw [if_neg (fun e => by have h := (of_decide_eq_true e).2.2 k (by rw [hal]; omega); rw [sl_get (by omega)] at h; have h := of_decide_eq_true h; exact h.2.2.2.2.1 c68)] | rw [if_neg (fun e => by have h := (of_decide_eq_true e).2.2 k (by rw [hal]; omega); rw [sl_get (by omega)] at h; have h := of_decide_eq_true h; exact h.2.2.2.2.2 c75)], rfl⟩
              · refine v_iload X (dk D_Mi_isQuote 36 rfl) rfl ?_
                refine v_bipush (v := 44) X (dk D_Mi_isQuote 37 rfl) (by decide) ?_
                refine v_icmp_ne (tgt := 80) X (dk D_Mi_isQuote 38 rfl) (by decide) (fun c75 => ?_) (fun c75 => ?_)
                · refine v_iinc (v := nI (k + 1)) (lb := [some (.ref 0), some (.int (nI st)), some (.int (nI n)), some (.int (nI (k + 1))), some (.int (xs.getD (st + k) 0 &&& 255))]) X (dk D_Mi_isQuote 41 rfl) rfl (nI_1 k) (by decide) rfl ?_
                  refine v_goto (tgt := 14) X (dk D_Mi_isQuote 42 rfl) (by decide) ?_
                  exact v_weak (la := [some (.ref 0), some (.int (nI st)), some (.int (nI n)), some (.int (nI (k + 1))), none]) ⟨rfl, rfl, rfl, rfl, trivial⟩ (ih (k + 1) (by omega) (fun j hj => by by_cases e : j = k; rw [e, sl_get (by omega)]; exact decide_eq_true ⟨fun z => absurd c39 (by rw [if_pos z]; decide), fun z => absurd c47 (by rw [if_pos z]; decide), c54, c61, c68, c75⟩; exact hm j (by omega)))
                · refine v_iconst (v := 0) X (dk D_Mi_isQuote 39 rfl) (by decide) ?_
                  exact v_zret X hlk hrt rfl (dk D_Mi_isQuote 40 rfl) ⟨by first | rw [if_neg (fun e => by have h := (of_decide_eq_true e).2.2 k (by rw [hal]; omega); rw [sl_get (by omega)] at h; have h := of_decide_eq_true h; exact h.1 (Decidable.byContradiction (fun z => c39 (if_neg z))))] | rw [if_neg (fun e => by have h := (of_decide_eq_true e).2.2 k (by rw [hal]; omega); rw [sl_get (by omega)] at h; have h := of_decide_eq_true h; exact h.2.1 (Decidable.byContradiction (fun z => c47 (if_neg z))))] | rw [if_neg (fun e => by have h := (of_decide_eq_true e).2.2 k (by rw [hal]; omega); rw [sl_get (by omega)] at h; have h := of_decide_eq_true h; exact h.2.2.1 c54)] | rw [if_neg (fun e => by have h := (of_decide_eq_true e).2.2 k (by rw [hal]; omega); rw [sl_get (by omega)] at h; have h := of_decide_eq_true h; exact h.2.2.2.1 c61)] | rw [if_neg (fun e => by have h := (of_decide_eq_true e).2.2 k (by rw [hal]; omega); rw [sl_get (by omega)] at h; have h := of_decide_eq_true h; exact h.2.2.2.2.1 c68)] | rw [if_neg (fun e => by have h := (of_decide_eq_true e).2.2 k (by rw [hal]; omega); rw [sl_get (by omega)] at h; have h := of_decide_eq_true h; exact h.2.2.2.2.2 c75)], rfl⟩
  refine v_iload_n X (dk D_Mi_isQuote 0 rfl) rfl ?_
  refine v_iconst (v := 1) X (dk D_Mi_isQuote 1 rfl) (by decide) ?_
  refine v_icmp_lt (tgt := 10) X (dk D_Mi_isQuote 2 rfl) (by decide) (fun c2 => ?_) (fun c2 => ?_)
  · refine v_iconst (v := 0) X (dk D_Mi_isQuote 6 rfl) (by decide) ?_
    exact v_zret X hlk hrt rfl (dk D_Mi_isQuote 7 rfl) ⟨by first | rw [if_neg (fun e => absurd c2 (nI_nlt (b := 1) (by have := (of_decide_eq_true e).1; rw [hal] at this; omega) (by omega)))] | rw [if_neg (fun e => c7 (nI_le (b := 4) (by have := (of_decide_eq_true e).2.1; rw [hal] at this; omega) (by decide)))], rfl⟩
  · refine v_iload_n X (dk D_Mi_isQuote 3 rfl) rfl ?_
    refine v_iconst (v := 4) X (dk D_Mi_isQuote 4 rfl) (by decide) ?_
    refine v_icmp_le (tgt := 12) X (dk D_Mi_isQuote 5 rfl) (by decide) (fun c7 => ?_) (fun c7 => ?_)
    · refine v_iconst (v := nI 0) X (dk D_Mi_isQuote 8 rfl) (by decide) ?_
      refine v_istore_n (lb := [some (.ref 0), some (.int (nI st)), some (.int (nI n)), some (.int (nI 0)), none]) X (dk D_Mi_isQuote 9 rfl) (by decide) rfl ?_
      exact loop (nI_ge1 c2) ((nI_leI (b := 4) (by omega) (by decide)).mp c7) n 0 (by omega) (fun j hj => by omega)
    · refine v_iconst (v := 0) X (dk D_Mi_isQuote 6 rfl) (by decide) ?_
      exact v_zret X hlk hrt rfl (dk D_Mi_isQuote 7 rfl) ⟨by first | rw [if_neg (fun e => absurd c2 (nI_nlt (b := 1) (by have := (of_decide_eq_true e).1; rw [hal] at this; omega) (by omega)))] | rw [if_neg (fun e => c7 (nI_le (b := 4) (by have := (of_decide_eq_true e).2.1; rw [hal] at this; omega) (by decide)))], rfl⟩
set_option maxHeartbeats 4000000 in
set_option maxRecDepth 100000 in
theorem k_define (l : Launch) (q : ev_T) {onTop : Bool} {P : Mng} {df db : Nat} {f : Fr} {r : List Fr} {cm : Bool} {g : mu_T} (hS : Shp g) (hC : CA g (f :: r) cm) (hfb : ∀ x ∈ hl (f :: r), isByte x) (hP : MP g P df db) : Ctr l q M_Mi_define 4 [.ref 0, .int (if onTop = true then 1 else 0)] (0, 0, g) (fun v w => v = some (.int (if isNm (f.2.1.getD 0 []) = true then (if (dfn onTop (f.2.1.getD 0 []) (f.2.1.getD 1 []) P df db).isSome = true then 0 else 40) else 35)) ∧ sm g w.2.2 MA ∧ MP w.2.2 (if isNm (f.2.1.getD 0 []) = true then (dfn onTop (f.2.1.getD 0 []) (f.2.1.getD 1 []) P df db).getD (P, df, db) else (P, df, db)).1 (if isNm (f.2.1.getD 0 []) = true then (dfn onTop (f.2.1.getD 0 []) (f.2.1.getD 1 []) P df db).getD (P, df, db) else (P, df, db)).2.1 (if isNm (f.2.1.getD 0 []) = true then (dfn onTop (f.2.1.getD 0 []) (f.2.1.getD 1 []) P df db).getD (P, df, db) else (P, df, db)).2.2) := by

  refine Ctr.mk (lb := [some (.ref 0), some (.int (if onTop = true then 1 else 0))]) (by decide +kernel) (Nat.le_of_ble_eq_true rfl) rfl rfl ?_
  intro pp ee ss mm aa bb mt cd X hrt hlk hnm
  refine v_aload_n X (dk D_Mi_define 0 rfl) rfl ?_
  refine v_aload_n X (dk D_Mi_define 1 rfl) rfl ?_
  refine v_getF X (dk D_Mi_define 2 rfl) F_Mi_37 rfl rfl (hS.lt (by decide)) (hS.2 0 4) ?_
  refine v_iconst (v := nI 0) X (dk D_Mi_define 3 rfl) (by decide) ?_
  refine v_invV (As := [.int (nI 0)]) (st := [.ref 0]) X (k_start l q (i := 0) hS hC (by decide)) (dk D_Mi_define 4 rfl) G_Mi_283 K_Ca_start V_Ca_start rfl rfl (hS.lt (by decide)) rfl rfl (Nat.le_of_ble_eq_true rfl) (Nat.le_of_ble_eq_true rfl) (Nat.le_of_ble_eq_true rfl) (Nat.le_of_ble_eq_true rfl) (Nat.le_of_ble_eq_true rfl) ?_
  rintro v ws ⟨rfl, hws⟩
  rw [hws]
  show Vv _ _ _ _ _ _ _ _ _ _ _ _ _ _ _ [.int (nI (stA f r 0)), .ref 0] (0, 0, g)
  refine v_aload_n X (dk D_Mi_define 5 rfl) rfl ?_
  refine v_getF X (dk D_Mi_define 6 rfl) F_Mi_37 rfl rfl (hS.lt (by decide)) (hS.2 0 4) ?_
  refine v_iconst (v := nI 0) X (dk D_Mi_define 7 rfl) (by decide) ?_
  refine v_invV (As := [.int (nI 0)]) (st := [.int (nI (stA f r 0)), .ref 0]) X (k_length l q (i := 0) hS hC (by decide)) (dk D_Mi_define 8 rfl) G_Mi_286 K_Ca_length V_Ca_length rfl rfl (hS.lt (by decide)) rfl rfl (Nat.le_of_ble_eq_true rfl) (Nat.le_of_ble_eq_true rfl) (Nat.le_of_ble_eq_true rfl) (Nat.le_of_ble_eq_true rfl) (Nat.le_of_ble_eq_true rfl) ?_
  rintro v ws ⟨rfl, hws⟩
  rw [hws]
  show Vv _ _ _ _ _ _ _ _ _ _ _ _ _ _ _ [.int (nI (f.2.1.getD 0 []).length), .int (nI (stA f r 0)), .ref 0] (0, 0, g)
  refine v_invV (As := [.int (nI (stA f r 0)), .int (nI (f.2.1.getD 0 []).length)]) (st := []) X (k_isName l q hS hC.1 (ag_le 0)) (dk D_Mi_define 9 rfl) G_Mi_342 K_Mi_isName V_Mi_isName rfl rfl (hS.lt (by decide)) rfl rfl (Nat.le_of_ble_eq_true rfl) (Nat.le_of_ble_eq_true rfl) (Nat.le_of_ble_eq_true rfl) (Nat.le_of_ble_eq_true rfl) (Nat.le_of_ble_eq_true rfl) ?_
  rintro v ws ⟨rfl, hws⟩
  rw [hws, hl_slice]
  show Vv _ _ _ _ _ _ _ _ _ _ _ _ _ _ _ [.int (if isNm (f.2.1.getD 0 []) = true then 1 else 0)] (0, 0, g)
  refine v_if_ne (tgt := 26) X (dk D_Mi_define 10 rfl) (by decide) (fun c20 => ?_) (fun c20 => ?_)
  · refine v_aload_n X (dk D_Mi_define 13 rfl) rfl ?_
    refine v_getF X (dk D_Mi_define 14 rfl) F_Mi_44 rfl rfl (hS.lt (by decide)) (hS.2 0 5) ?_
    refine v_aload_n X (dk D_Mi_define 15 rfl) rfl ?_
    refine v_getF X (dk D_Mi_define 16 rfl) F_Mi_37 rfl rfl (hS.lt (by decide)) (hS.2 0 4) ?_
    refine v_iload_n X (dk D_Mi_define 17 rfl) rfl ?_
    refine v_invV (As := [.ref 17, .int (if onTop = true then 1 else 0)]) (st := []) X (k_defineM l q (onTop := onTop) hS hP hC hfb) (dk D_Mi_define 18 rfl) G_Mi_346 K_Ms_define V_Ms_define rfl rfl (hS.lt (by decide)) rfl rfl (Nat.le_of_ble_eq_true rfl) (Nat.le_of_ble_eq_true rfl) (Nat.le_of_ble_eq_true rfl) (Nat.le_of_ble_eq_true rfl) (Nat.le_of_ble_eq_true rfl) ?_
    rintro v w ⟨rfl, y1, y2⟩
    show Vv _ _ _ _ _ _ _ _ _ _ _ _ _ _ _ [.int (if (dfn onTop (f.2.1.getD 0 []) (f.2.1.getD 1 []) P df db).isSome = true then 1 else 0)] (0, 0, w.2.2)
    refine v_if_eq (tgt := 45) X (dk D_Mi_define 19 rfl) (by decide) (fun c38 => ?_) (fun c38 => ?_)
    · refine v_bipush (v := 40) X (dk D_Mi_define 22 rfl) (by decide) ?_
      exact v_iret X hlk hrt (dk D_Mi_define 23 rfl) ⟨by first | rw [if_pos (show isNm (f.2.1.getD 0 []) = true from Decidable.byContradiction (fun h => c20 (if_neg h))), if_pos (Decidable.byContradiction (fun h => c38 (if_neg h)))] | rw [if_pos (show isNm (f.2.1.getD 0 []) = true from Decidable.byContradiction (fun h => c20 (if_neg h))), if_neg (fun h => absurd c38 (by rw [if_pos h]; decide))], y1, by rw [if_pos (show isNm (f.2.1.getD 0 []) = true from Decidable.byContradiction (fun h => c20 (if_neg h)))]; exact y2⟩
    · refine v_iconst (v := 0) X (dk D_Mi_define 20 rfl) (by decide) ?_
      refine v_goto (tgt := 47) X (dk D_Mi_define 21 rfl) (by decide) ?_
      exact v_iret X hlk hrt (dk D_Mi_define 23 rfl) ⟨by first | rw [if_pos (show isNm (f.2.1.getD 0 []) = true from Decidable.byContradiction (fun h => c20 (if_neg h))), if_pos (Decidable.byContradiction (fun h => c38 (if_neg h)))] | rw [if_pos (show isNm (f.2.1.getD 0 []) = true from Decidable.byContradiction (fun h => c20 (if_neg h))), if_neg (fun h => absurd c38 (by rw [if_pos h]; decide))], y1, by rw [if_pos (show isNm (f.2.1.getD 0 []) = true from Decidable.byContradiction (fun h => c20 (if_neg h)))]; exact y2⟩
  · refine v_bipush (v := 35) X (dk D_Mi_define 11 rfl) (by decide) ?_
    exact v_iret X hlk hrt (dk D_Mi_define 12 rfl) ⟨by rw [if_neg (fun h => absurd c20 (by rw [if_pos h]; decide))], sm.rf _ _, by rw [if_neg (fun h => absurd c20 (by rw [if_pos h]; decide))]; exact hP⟩
set_option maxHeartbeats 4000000 in
set_option maxRecDepth 100000 in
theorem k_takeMeanings (l : Launch) (q : ev_T) {all : Bool} {P : Mng} {df db : Nat} {f : Fr} {r : List Fr} {cm : Bool} {g : mu_T} (hS : Shp g) (hC : CA g (f :: r) cm) (hfb : ∀ x ∈ hl (f :: r), isByte x) (hP : MP g P df db) : Ctr l q M_Mi_takeMeanings 4 [.ref 0, .int (if all = true then 1 else 0)] (0, 0, g) (fun v w => v = some (.int 0) ∧ sm g w.2.2 MA ∧ MP w.2.2 (f.2.1.foldl (tkO all) (P, df, db)).1 (f.2.1.foldl (tkO all) (P, df, db)).2.1 (f.2.1.foldl (tkO all) (P, df, db)).2.2) := by
  have hna : f.2.1.length ≤ 8192 := Nat.le_trans (na_le (f := f) (r := r)) hC.2.2.2.2.2.1
  refine Ctr.mk (lb := [some (.ref 0), some (.int (if all = true then 1 else 0)), none]) (by decide +kernel) (Nat.le_of_ble_eq_true rfl) rfl rfl ?_
  intro pp ee ss mm aa bb mt cd X hrt hlk hnm
  have loop : ∀ (d k : Nat) (u : mu_T) (S : Mng × Nat × Nat), k + d = f.2.1.length → sm g u MA → MP u S.1 S.2.1 S.2.2 → (f.2.1.foldl (tkO all) (P, df, db)) = (f.2.1.drop k).foldl (tkO all) S → Vv pp l ee (rmT 4 0 0) ss mm aa bb mt cd 3 q (MQ bb (Qw q (fun v w => v = some (.int 0) ∧ sm g w.2.2 MA ∧ MP w.2.2 (f.2.1.foldl (tkO all) (P, df, db)).1 (f.2.1.foldl (tkO all) (P, df, db)).2.1 (f.2.1.foldl (tkO all) (P, df, db)).2.2)) aa ss 0 0 (fun a => q.1 ≤ a)) 2 [some (.ref 0), some (.int (if all = true then 1 else 0)), some (.int (nI k))] [] (0, 0, u) := by
    intro d
    induction d with
    | zero =>
      intro k u S hkd zu hPu hst
      have hSu := hS.sm zu
      have hCu := hC.sm zu MA_CS
      refine v_iload_n X (dk D_Mi_takeMeanings 2 rfl) rfl ?_
      refine v_aload_n X (dk D_Mi_takeMeanings 3 rfl) rfl ?_
      refine v_getF X (dk D_Mi_takeMeanings 4 rfl) F_Mi_37 rfl rfl (hSu.lt (by decide)) (hSu.2 0 4) ?_
      refine v_invV (As := []) (st := [.int (nI k)]) X (k_arguments l q hSu hCu) (dk D_Mi_takeMeanings 5 rfl) G_Mi_273 K_Ca_arguments V_Ca_arguments rfl rfl (hSu.lt (by decide)) rfl rfl (Nat.le_of_ble_eq_true rfl) (Nat.le_of_ble_eq_true rfl) (Nat.le_of_ble_eq_true rfl) (Nat.le_of_ble_eq_true rfl) (Nat.le_of_ble_eq_true rfl) ?_
      rintro v ws ⟨rfl, hws⟩
      rw [hws]
      show Vv _ _ _ _ _ _ _ _ _ _ _ _ _ _ _ [.int (nI f.2.1.length), .int (nI k)] (0, 0, u)
      refine v_icmp_ge (tgt := 50) X (dk D_Mi_takeMeanings 6 rfl) (by decide) (fun _ => ?_) (fun c10 => absurd (nI_le (by omega) (by omega)) c10)
      refine v_iconst (v := 0) X (dk D_Mi_takeMeanings 24 rfl) (by decide) ?_
      exact v_iret X hlk hrt (dk D_Mi_takeMeanings 25 rfl) ⟨rfl, zu, by rw [hst, List.drop_eq_nil_of_le (by omega)]; exact hPu⟩
    | succ d ih =>
      intro k u S hkd zu hPu hst
      have hSu := hS.sm zu
      have hCu := hC.sm zu MA_CS
      have hdr : f.2.1.drop k = (f.2.1.getD k []) :: f.2.1.drop (k + 1) := by rw [List.drop_eq_getElem_cons (by omega), List.getD_eq_getElem?_getD, List.getElem?_eq_getElem (by omega)]; rfl
      refine v_iload_n X (dk D_Mi_takeMeanings 2 rfl) rfl ?_
      refine v_aload_n X (dk D_Mi_takeMeanings 3 rfl) rfl ?_
      refine v_getF X (dk D_Mi_takeMeanings 4 rfl) F_Mi_37 rfl rfl (hSu.lt (by decide)) (hSu.2 0 4) ?_
      refine v_invV (As := []) (st := [.int (nI k)]) X (k_arguments l q hSu hCu) (dk D_Mi_takeMeanings 5 rfl) G_Mi_273 K_Ca_arguments V_Ca_arguments rfl rfl (hSu.lt (by decide)) rfl rfl (Nat.le_of_ble_eq_true rfl) (Nat.le_of_ble_eq_true rfl) (Nat.le_of_ble_eq_true rfl) (Nat.le_of_ble_eq_true rfl) (Nat.le_of_ble_eq_true rfl) ?_
      rintro v ws ⟨rfl, hws⟩
      rw [hws]
      show Vv _ _ _ _ _ _ _ _ _ _ _ _ _ _ _ [.int (nI f.2.1.length), .int (nI k)] (0, 0, u)
      refine v_icmp_ge (tgt := 50) X (dk D_Mi_takeMeanings 6 rfl) (by decide) (fun c10 => absurd c10 (nI_ge (by omega) (by omega))) (fun _ => ?_)
      refine v_aload_n X (dk D_Mi_takeMeanings 7 rfl) rfl ?_
      refine v_getF X (dk D_Mi_takeMeanings 8 rfl) F_Mi_44 rfl rfl (hSu.lt (by decide)) (hSu.2 0 5) ?_
      refine v_aload_n X (dk D_Mi_takeMeanings 9 rfl) rfl ?_
      refine v_getF X (dk D_Mi_takeMeanings 10 rfl) F_Mi_37 rfl rfl (hSu.lt (by decide)) (hSu.2 0 4) ?_
      refine v_getF X (dk D_Mi_takeMeanings 11 rfl) F_Mi_219 rfl rfl (hSu.lt (by decide)) (hSu.2 17 0) ?_
      refine v_aload_n X (dk D_Mi_takeMeanings 12 rfl) rfl ?_
      refine v_getF X (dk D_Mi_takeMeanings 13 rfl) F_Mi_37 rfl rfl (hSu.lt (by decide)) (hSu.2 0 4) ?_
      refine v_iload_n X (dk D_Mi_takeMeanings 14 rfl) rfl ?_
      refine v_invV (As := [.int (nI k)]) (st := [.ref 18, .ref 25]) X (k_start l q (i := k) hSu hCu (by omega)) (dk D_Mi_takeMeanings 15 rfl) G_Mi_283 K_Ca_start V_Ca_start rfl rfl (hSu.lt (by decide)) rfl rfl (Nat.le_of_ble_eq_true rfl) (Nat.le_of_ble_eq_true rfl) (Nat.le_of_ble_eq_true rfl) (Nat.le_of_ble_eq_true rfl) (Nat.le_of_ble_eq_true rfl) ?_
      rintro v ws ⟨rfl, hws⟩
      rw [hws]
      show Vv _ _ _ _ _ _ _ _ _ _ _ _ _ _ _ [.int (nI (stA f r k)), .ref 18, .ref 25] (0, 0, u)
      refine v_aload_n X (dk D_Mi_takeMeanings 16 rfl) rfl ?_
      refine v_getF X (dk D_Mi_takeMeanings 17 rfl) F_Mi_37 rfl rfl (hSu.lt (by decide)) (hSu.2 0 4) ?_
      refine v_iload_n X (dk D_Mi_takeMeanings 18 rfl) rfl ?_
      refine v_invV (As := [.int (nI k)]) (st := [.int (nI (stA f r k)), .ref 18, .ref 25]) X (k_length l q (i := k) hSu hCu (by omega)) (dk D_Mi_takeMeanings 19 rfl) G_Mi_286 K_Ca_length V_Ca_length rfl rfl (hSu.lt (by decide)) rfl rfl (Nat.le_of_ble_eq_true rfl) (Nat.le_of_ble_eq_true rfl) (Nat.le_of_ble_eq_true rfl) (Nat.le_of_ble_eq_true rfl) (Nat.le_of_ble_eq_true rfl) ?_
      rintro v ws ⟨rfl, hws⟩
      rw [hws]
      show Vv _ _ _ _ _ _ _ _ _ _ _ _ _ _ _ [.int (nI (f.2.1.getD k []).length), .int (nI (stA f r k)), .ref 18, .ref 25] (0, 0, u)
      refine v_iload_n X (dk D_Mi_takeMeanings 20 rfl) rfl ?_
      refine v_invV (As := [.ref 18, .int (nI (stA f r k)), .int (nI (f.2.1.getD k []).length), .int (if all = true then 1 else 0)]) (st := []) X (k_take l q (all := all) hSu hPu hCu.1 (by decide) (by decide) (by decide) (ag_le k) hfb) (dk D_Mi_takeMeanings 21 rfl) G_Mi_355 K_Ms_take V_Ms_take rfl rfl (hSu.lt (by decide)) rfl rfl (Nat.le_of_ble_eq_true rfl) (Nat.le_of_ble_eq_true rfl) (Nat.le_of_ble_eq_true rfl) (Nat.le_of_ble_eq_true rfl) (Nat.le_of_ble_eq_true rfl) ?_
      rintro v w ⟨rfl, y1, y2⟩
      rw [hl_slice] at y2
      show Vv _ _ _ _ _ _ _ _ _ _ _ _ _ _ _ [] (0, 0, w.2.2)
      refine v_iinc (v := nI (k + 1)) (lb := [some (.ref 0), some (.int (if all = true then 1 else 0)), some (.int (nI (k + 1)))]) X (dk D_Mi_takeMeanings 22 rfl) rfl (nI_1 k) (by decide) rfl ?_
      refine v_goto (tgt := 2) X (dk D_Mi_takeMeanings 23 rfl) (by decide) ?_
      exact ih (k + 1) w.2.2 (tkO all S (f.2.1.getD k [])) (by omega) (zu.tr y1 (U := MA) (fun _ h => h) (fun _ h => h)) y2 (by rw [hst, hdr, List.foldl_cons])
  refine v_iconst (v := nI 0) X (dk D_Mi_takeMeanings 0 rfl) (by decide) ?_
  refine v_istore_n (lb := [some (.ref 0), some (.int (if all = true then 1 else 0)), some (.int (nI 0))]) X (dk D_Mi_takeMeanings 1 rfl) (by decide) rfl ?_
  exact loop f.2.1.length 0 g (P, df, db) (by omega) (sm.rf _ _) hP (by rw [List.drop_zero])
set_option maxHeartbeats 4000000 in
set_option maxRecDepth 100000 in
theorem k_chooseByMacro (l : Launch) (q : ev_T) {P : Mng} {df db : Nat} {F : List Int32} {f : Fr} {r : List Fr} {cm : Bool} {g : mu_T} (hS : Shp g) (hC : CA g (f :: r) cm) (hfb : ∀ x ∈ hl (f :: r), isByte x) (hP : MP g P df db) (hR : RE g F) : Ctr l q M_Mi_chooseByMacro 3 [.ref 0] (0, 0, g) (fun v w => v = some (.int 0) ∧ sm g w.2.2 [5, 6] ∧ RE w.2.2 (F ++ (if P (f.2.1.getD 0 []) = [] then f.2.1.getD 2 [] else (f.2.1.getD 1 [])))) := by
  obtain ⟨bk, sp, N, T, B, n9, b9, hM, hMC, hnb, hbb, hdf, hdb, hPP⟩ := hP
  obtain ⟨k, hk1, hk2⟩ := and127 (hsh (f.2.1.getD 0 []))
  refine Ctr.mk (lb := [some (.ref 0), none]) (by decide +kernel) (Nat.le_of_ble_eq_true rfl) rfl rfl ?_
  intro pp ee ss mm aa bb mt cd X hrt hlk hnm
  rcases on_or ((bk k).find? (fun i => decide (N i = (f.2.1.getD 0 [])))) with hF | ⟨i, hF⟩
  · have hPn : P (f.2.1.getD 0 []) = [] := by rw [hPP (f.2.1.getD 0 []) k hk1 hk2, BF_none (fnd_none hF)]
    refine v_aload_n X (dk D_Mi_chooseByMacro 0 rfl) rfl ?_
    refine v_getF X (dk D_Mi_chooseByMacro 1 rfl) F_Mi_44 rfl rfl (hS.lt (by decide)) (hS.2 0 5) ?_
    refine v_aload_n X (dk D_Mi_chooseByMacro 2 rfl) rfl ?_
    refine v_getF X (dk D_Mi_chooseByMacro 3 rfl) F_Mi_37 rfl rfl (hS.lt (by decide)) (hS.2 0 4) ?_
    refine v_getF X (dk D_Mi_chooseByMacro 4 rfl) F_Mi_219 rfl rfl (hS.lt (by decide)) (hS.2 17 0) ?_
    refine v_aload_n X (dk D_Mi_chooseByMacro 5 rfl) rfl ?_
    refine v_getF X (dk D_Mi_chooseByMacro 6 rfl) F_Mi_37 rfl rfl (hS.lt (by decide)) (hS.2 0 4) ?_
    refine v_iconst (v := nI 0) X (dk D_Mi_chooseByMacro 7 rfl) (by decide) ?_
    refine v_invV (As := [.int (nI 0)]) (st := [.ref 18, .ref 25]) X (k_start l q (i := 0) hS hC (by decide)) (dk D_Mi_chooseByMacro 8 rfl) G_Mi_283 K_Ca_start V_Ca_start rfl rfl (hS.lt (by decide)) rfl rfl (Nat.le_of_ble_eq_true rfl) (Nat.le_of_ble_eq_true rfl) (Nat.le_of_ble_eq_true rfl) (Nat.le_of_ble_eq_true rfl) (Nat.le_of_ble_eq_true rfl) ?_
    rintro v ws ⟨rfl, hws⟩
    rw [hws]
    show Vv _ _ _ _ _ _ _ _ _ _ _ _ _ _ _ [.int (nI (stA f r 0)), .ref 18, .ref 25] (0, 0, g)
    refine v_aload_n X (dk D_Mi_chooseByMacro 9 rfl) rfl ?_
    refine v_getF X (dk D_Mi_chooseByMacro 10 rfl) F_Mi_37 rfl rfl (hS.lt (by decide)) (hS.2 0 4) ?_
    refine v_iconst (v := nI 0) X (dk D_Mi_chooseByMacro 11 rfl) (by decide) ?_
    refine v_invV (As := [.int (nI 0)]) (st := [.int (nI (stA f r 0)), .ref 18, .ref 25]) X (k_length l q (i := 0) hS hC (by decide)) (dk D_Mi_chooseByMacro 12 rfl) G_Mi_286 K_Ca_length V_Ca_length rfl rfl (hS.lt (by decide)) rfl rfl (Nat.le_of_ble_eq_true rfl) (Nat.le_of_ble_eq_true rfl) (Nat.le_of_ble_eq_true rfl) (Nat.le_of_ble_eq_true rfl) (Nat.le_of_ble_eq_true rfl) ?_
    rintro v ws ⟨rfl, hws⟩
    rw [hws]
    show Vv _ _ _ _ _ _ _ _ _ _ _ _ _ _ _ [.int (nI (f.2.1.getD 0 []).length), .int (nI (stA f r 0)), .ref 18, .ref 25] (0, 0, g)
    refine v_invV (As := [.ref 18, .int (nI (stA f r 0)), .int (nI (f.2.1.getD 0 []).length)]) (st := []) X (k_findM l q hS hM hC.1 (by decide) (ag_le 0) hfb hk1 (by rw [hl_slice]; exact hk2)) (dk D_Mi_chooseByMacro 13 rfl) G_Mi_176 K_Ms_find V_Ms_find rfl rfl (hS.lt (by decide)) rfl rfl (Nat.le_of_ble_eq_true rfl) (Nat.le_of_ble_eq_true rfl) (Nat.le_of_ble_eq_true rfl) (Nat.le_of_ble_eq_true rfl) (Nat.le_of_ble_eq_true rfl) ?_
    rintro v ws ⟨rfl, hws⟩
    rw [hws, hl_slice, hF]
    show Vv _ _ _ _ _ _ _ _ _ _ _ _ _ _ _ [.null] (0, 0, g)
    refine v_astore_nN (lb := [some (.ref 0), some .null]) X (dk D_Mi_chooseByMacro 14 rfl) (by decide) rfl ?_
    refine v_aload_n X (dk D_Mi_chooseByMacro 15 rfl) rfl ?_
    refine v_aload_nN X (dk D_Mi_chooseByMacro 16 rfl) rfl ?_
    refine v_ifnullN (tgt := 40) X (dk D_Mi_chooseByMacro 17 rfl) (by decide) ?_
    refine v_iconst (v := nI 2) X (dk D_Mi_chooseByMacro 20 rfl) (by decide) ?_
    refine v_invV (As := [.int (nI 2)]) (st := []) X (k_addArgument l q (i := 2) hS hC hfb hR (by decide)) (dk D_Mi_chooseByMacro 21 rfl) G_Mi_270 K_Mi_addArgument V_Mi_addArgument rfl rfl (hS.lt (by decide)) rfl rfl (Nat.le_of_ble_eq_true rfl) (Nat.le_of_ble_eq_true rfl) (Nat.le_of_ble_eq_true rfl) (Nat.le_of_ble_eq_true rfl) (Nat.le_of_ble_eq_true rfl) ?_
    rintro v w ⟨rfl, y1, y2⟩
    show Vv _ _ _ _ _ _ _ _ _ _ _ _ _ _ _ [] (0, 0, w.2.2)
    refine v_iconst (v := 0) X (dk D_Mi_chooseByMacro 22 rfl) (by decide) ?_
    exact v_iret X hlk hrt (dk D_Mi_chooseByMacro 23 rfl) ⟨rfl, y1, by rw [if_pos hPn]; exact y2⟩
  · obtain ⟨ks, is, hbk, hn, hks⟩ := fnd_split hF
    have hPn : ¬ P (f.2.1.getD 0 []) = [] := by rw [hPP (f.2.1.getD 0 []) k hk1 hk2, BF_fnd hbk hn hks]; exact fun h => by cases h
    refine v_aload_n X (dk D_Mi_chooseByMacro 0 rfl) rfl ?_
    refine v_getF X (dk D_Mi_chooseByMacro 1 rfl) F_Mi_44 rfl rfl (hS.lt (by decide)) (hS.2 0 5) ?_
    refine v_aload_n X (dk D_Mi_chooseByMacro 2 rfl) rfl ?_
    refine v_getF X (dk D_Mi_chooseByMacro 3 rfl) F_Mi_37 rfl rfl (hS.lt (by decide)) (hS.2 0 4) ?_
    refine v_getF X (dk D_Mi_chooseByMacro 4 rfl) F_Mi_219 rfl rfl (hS.lt (by decide)) (hS.2 17 0) ?_
    refine v_aload_n X (dk D_Mi_chooseByMacro 5 rfl) rfl ?_
    refine v_getF X (dk D_Mi_chooseByMacro 6 rfl) F_Mi_37 rfl rfl (hS.lt (by decide)) (hS.2 0 4) ?_
    refine v_iconst (v := nI 0) X (dk D_Mi_chooseByMacro 7 rfl) (by decide) ?_
    refine v_invV (As := [.int (nI 0)]) (st := [.ref 18, .ref 25]) X (k_start l q (i := 0) hS hC (by decide)) (dk D_Mi_chooseByMacro 8 rfl) G_Mi_283 K_Ca_start V_Ca_start rfl rfl (hS.lt (by decide)) rfl rfl (Nat.le_of_ble_eq_true rfl) (Nat.le_of_ble_eq_true rfl) (Nat.le_of_ble_eq_true rfl) (Nat.le_of_ble_eq_true rfl) (Nat.le_of_ble_eq_true rfl) ?_
    rintro v ws ⟨rfl, hws⟩
    rw [hws]
    show Vv _ _ _ _ _ _ _ _ _ _ _ _ _ _ _ [.int (nI (stA f r 0)), .ref 18, .ref 25] (0, 0, g)
    refine v_aload_n X (dk D_Mi_chooseByMacro 9 rfl) rfl ?_
    refine v_getF X (dk D_Mi_chooseByMacro 10 rfl) F_Mi_37 rfl rfl (hS.lt (by decide)) (hS.2 0 4) ?_
    refine v_iconst (v := nI 0) X (dk D_Mi_chooseByMacro 11 rfl) (by decide) ?_
    refine v_invV (As := [.int (nI 0)]) (st := [.int (nI (stA f r 0)), .ref 18, .ref 25]) X (k_length l q (i := 0) hS hC (by decide)) (dk D_Mi_chooseByMacro 12 rfl) G_Mi_286 K_Ca_length V_Ca_length rfl rfl (hS.lt (by decide)) rfl rfl (Nat.le_of_ble_eq_true rfl) (Nat.le_of_ble_eq_true rfl) (Nat.le_of_ble_eq_true rfl) (Nat.le_of_ble_eq_true rfl) (Nat.le_of_ble_eq_true rfl) ?_
    rintro v ws ⟨rfl, hws⟩
    rw [hws]
    show Vv _ _ _ _ _ _ _ _ _ _ _ _ _ _ _ [.int (nI (f.2.1.getD 0 []).length), .int (nI (stA f r 0)), .ref 18, .ref 25] (0, 0, g)
    refine v_invV (As := [.ref 18, .int (nI (stA f r 0)), .int (nI (f.2.1.getD 0 []).length)]) (st := []) X (k_findM l q hS hM hC.1 (by decide) (ag_le 0) hfb hk1 (by rw [hl_slice]; exact hk2)) (dk D_Mi_chooseByMacro 13 rfl) G_Mi_176 K_Ms_find V_Ms_find rfl rfl (hS.lt (by decide)) rfl rfl (Nat.le_of_ble_eq_true rfl) (Nat.le_of_ble_eq_true rfl) (Nat.le_of_ble_eq_true rfl) (Nat.le_of_ble_eq_true rfl) (Nat.le_of_ble_eq_true rfl) ?_
    rintro v ws ⟨rfl, hws⟩
    rw [hws, hl_slice, hF]
    show Vv _ _ _ _ _ _ _ _ _ _ _ _ _ _ _ [.ref (31 + 3 * i)] (0, 0, g)
    refine v_astore_n (lb := [some (.ref 0), some (.ref (31 + 3 * i))]) X (dk D_Mi_chooseByMacro 14 rfl) (by decide) rfl ?_
    refine v_aload_n X (dk D_Mi_chooseByMacro 15 rfl) rfl ?_
    refine v_aload_n X (dk D_Mi_chooseByMacro 16 rfl) rfl ?_
    refine v_ifnull X (dk D_Mi_chooseByMacro 17 rfl) ?_
    refine v_iconst (v := nI 1) X (dk D_Mi_chooseByMacro 18 rfl) (by decide) ?_
    refine v_goto (tgt := 41) X (dk D_Mi_chooseByMacro 19 rfl) (by decide) ?_
    refine v_invV (As := [.int (nI 1)]) (st := []) X (k_addArgument l q (i := 1) hS hC hfb hR (by decide)) (dk D_Mi_chooseByMacro 21 rfl) G_Mi_270 K_Mi_addArgument V_Mi_addArgument rfl rfl (hS.lt (by decide)) rfl rfl (Nat.le_of_ble_eq_true rfl) (Nat.le_of_ble_eq_true rfl) (Nat.le_of_ble_eq_true rfl) (Nat.le_of_ble_eq_true rfl) (Nat.le_of_ble_eq_true rfl) ?_
    rintro v w ⟨rfl, y1, y2⟩
    show Vv _ _ _ _ _ _ _ _ _ _ _ _ _ _ _ [] (0, 0, w.2.2)
    refine v_iconst (v := 0) X (dk D_Mi_chooseByMacro 22 rfl) (by decide) ?_
    exact v_iret X hlk hrt (dk D_Mi_chooseByMacro 23 rfl) ⟨rfl, y1, by rw [if_neg hPn]; exact y2⟩
set_option maxHeartbeats 4000000 in
set_option maxRecDepth 100000 in
theorem k_addTo (l : Launch) (q : ev_T) {s : Int32} {F : List Int32} {f : Fr} {r : List Fr} {cm : Bool} {g : mu_T} (hS : Shp g) (hC : CA g (f :: r) cm) (hfb : ∀ x ∈ hl (f :: r), isByte x) (hR : RE g F) : Ctr l q M_Mi_addTo 3 [.ref 0, .int s] (0, 0, g) (fun v w => v = some (.int (match (nmX (f.2.1.getD 0 [])) with | none => 36 | some _ => 0)) ∧ sm g w.2.2 [5, 6] ∧ RE w.2.2 (F ++ (match (nmX (f.2.1.getD 0 [])) with | none => [] | some x => decB (x + s)))) := by

  refine Ctr.mk (lb := [some (.ref 0), some (.int s), none]) (by decide +kernel) (Nat.le_of_ble_eq_true rfl) rfl rfl ?_
  intro pp ee ss mm aa bb mt cd X hrt hlk hnm
  refine v_aload_n X (dk D_Mi_addTo 0 rfl) rfl ?_
  refine v_iconst (v := nI 0) X (dk D_Mi_addTo 1 rfl) (by decide) ?_
  refine v_invV (As := [.int (nI 0)]) (st := []) X (k_number l q (i := 0) hS hC (by decide)) (dk D_Mi_addTo 2 rfl) G_Mi_361 K_Mi_number V_Mi_number rfl rfl (hS.lt (by decide)) rfl rfl (Nat.le_of_ble_eq_true rfl) (Nat.le_of_ble_eq_true rfl) (Nat.le_of_ble_eq_true rfl) (Nat.le_of_ble_eq_true rfl) (Nat.le_of_ble_eq_true rfl) ?_
  rintro v ws ⟨rfl, hws⟩
  rw [hws]
  show Vv _ _ _ _ _ _ _ _ _ _ _ _ _ _ _ [.int ((nmX (f.2.1.getD 0 [])).getD (-2147483648))] (0, 0, g)
  refine v_istore_n (lb := [some (.ref 0), some (.int s), some (.int ((nmX (f.2.1.getD 0 [])).getD (-2147483648)))]) X (dk D_Mi_addTo 3 rfl) (by decide) rfl ?_
  refine v_iload_n X (dk D_Mi_addTo 4 rfl) rfl ?_
  refine v_ldcw X (dk D_Mi_addTo 5 rfl) C_Mi_364 ?_
  refine v_icmp_ne (tgt := 16) X (dk D_Mi_addTo 6 rfl) (by decide) (fun c10 => ?_) (fun c10 => ?_)
  · refine v_aload_n X (dk D_Mi_addTo 9 rfl) rfl ?_
    refine v_getF X (dk D_Mi_addTo 10 rfl) F_Mi_24 rfl rfl (hS.lt (by decide)) (hS.2 0 2) ?_
    refine v_iload_n X (dk D_Mi_addTo 11 rfl) rfl ?_
    refine v_iload_n X (dk D_Mi_addTo 12 rfl) rfl ?_
    refine v_iadd X (dk D_Mi_addTo 13 rfl) ?_
    refine v_invV (As := [.int ((nmX (f.2.1.getD 0 [])).getD (-2147483648) + s)]) (st := []) X (kr_addNumber l q hR) (dk D_Mi_addTo 14 rfl) G_Mi_276 K_By_addNumber V_By_addNumber rfl rfl (hS.lt (by decide)) rfl rfl (Nat.le_of_ble_eq_true rfl) (Nat.le_of_ble_eq_true rfl) (Nat.le_of_ble_eq_true rfl) (Nat.le_of_ble_eq_true rfl) (Nat.le_of_ble_eq_true rfl) ?_
    rintro v w ⟨rfl, y1, y2⟩
    show Vv _ _ _ _ _ _ _ _ _ _ _ _ _ _ _ [] (0, 0, w.2.2)
    refine v_iconst (v := 0) X (dk D_Mi_addTo 15 rfl) (by decide) ?_
    exact v_iret X hlk hrt (dk D_Mi_addTo 16 rfl) (by rcases on_or (nmX (f.2.1.getD 0 [])) with h | ⟨x, h⟩; exact absurd (nmX_no.mpr h) c10; rw [h] at y2 ⊢; exact ⟨rfl, y1, y2⟩)
  · refine v_bipush (v := 36) X (dk D_Mi_addTo 7 rfl) (by decide) ?_
    exact v_iret X hlk hrt (dk D_Mi_addTo 8 rfl) ⟨by rw [nmX_no.mp c10], sm.rf _ _, by rw [nmX_no.mp c10]; show RE _ (F ++ []); rw [List.append_nil]; exact hR⟩
