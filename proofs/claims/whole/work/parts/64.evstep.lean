/-! Expression: a step -/
section VNN
variable {p : Program} {l : Launch} {e : Env} {R : Room} {s : State} {m : MethodId} {args : Array Value} {below : List Frame} {meth : Method} {c : Code} {nL : Nat} {q : ev_T} {Qf : State → Prop} {pc : Nat} {la : List (Option Value)} {st : List Value} {u : mm_T} {cc : ByteArray} {own : String}
theorem v_astore_nN (X : Cx p s m args c cc nL own q) {n : Fin 4} {lb : List (Option Value)} (hd : decode cc pc = .ok (.astore_n n, 1)) (hn : (n : Nat) < nL) (hs : st1 la (n : Nat) .null = lb) (k : Vv p l e R s m args below meth c nL q Qf (pc + 1) lb st u) : Vv p l e R s m args below meth c nL q Qf pc la (.null :: st) u :=
  fun ls H locs cells slots h1 h2 h3 h4 h5 => lv_astore_nN X.1 X.2.1 hd rfl (lh_all_has h1) hn rfl (fun ls' hl' => k ls' H locs cells slots (hs ▸ lh_st1 h1 hl') h2 h3 h4 h5)
end VNN
def eI (e : Ev) : Prop := okW e.2.2.1 ∧ frn e.2.2.1 ≤ 30 ∧ e.2.1.length = btw e.2.2.1 + (if e.2.2.2.1 = true then 0 else 1)
def sK (g : mu_T) (b en : Nat) (xs : List Int32) (E : Option Ev) (v : Option Value) (w : mu_T) : Prop := v = some (.int (if E.isSome = true then 1 else 0)) ∧ sm g w XS ∧ ∀ e, E = some e → ∃ a, a ≤ en ∧ rsE xs a en = e.1 ∧ EX w b a en e.2.1 e.2.2.1 (frn e.2.2.1) e.2.2.2.1 e.2.2.2.2 ∧ eI e
theorem sK_no {g w : mu_T} {b en : Nat} {xs : List Int32} {E : Option Ev} (h : E = none) (z : sm g w XS) : sK g b en xs E (some (.int 0)) w := ⟨by rw [h]; rfl, z, fun e he => by rw [h] at he; cases he⟩
theorem sK_yes {g w : mu_T} {b en a : Nat} {xs : List Int32} {E : Option Ev} {e : Ev} (h : E = some e) (z : sm g w XS) (ha : a ≤ en) (hr : rsE xs a en = e.1) (hE : EX w b a en e.2.1 e.2.2.1 (frn e.2.2.1) e.2.2.2.1 e.2.2.2.2) (hi : eI e) : sK g b en xs E (some (.int 1)) w := ⟨by rw [h]; rfl, z, fun e2 he => by rw [h] at he; cases he; exact ⟨a, ha, hr, hE, hi⟩⟩
def nuE (s vs : List Int32) (ws : List Nat) (bz : Bool) : Option Ev := if 9 < (dgs 10 0 0 s).1 then none else some ((dgs 10 0 0 s).2.2, (rck 11 ws ((dgs 10 0 0 s).2.1 :: vs) bz).1, (rck 11 ws ((dgs 10 0 0 s).2.1 :: vs) bz).2.1, false, (rck 11 ws ((dgs 10 0 0 s).2.1 :: vs) bz).2.2)
def frE (x : Int32) (s vs : List Int32) (ws : List Nat) (bz : Bool) : Option Ev := match frO x s with
  | none => none
  | some o => if 30 ≤ frn ws then none else some (s, vs, o :: ws, true, bz)
def clE (s vs : List Int32) (ws : List Nat) (bz : Bool) : Option Ev := match (rck 1 ws vs bz).2.1 with
  | [] => none
  | _ :: w => some (s, (rck 11 w (rck 1 ws vs bz).1 (rck 1 ws vs bz).2.2).1, (rck 11 w (rck 1 ws vs bz).1 (rck 1 ws vs bz).2.2).2.1, false, (rck 11 w (rck 1 ws vs bz).1 (rck 1 ws vs bz).2.2).2.2)
def beE (s vs : List Int32) (ws : List Nat) (bz : Bool) : Option Ev := match btO s with
  | none => none
  | some o => some (s.drop (sgO o).length, (rck (opS o) ws vs bz).1, o :: (rck (opS o) ws vs bz).2.1, true, (rck (opS o) ws vs bz).2.2)
theorem eSt_eq (b : Int32) (s vs : List Int32) (ws : List Nat) (due bz : Bool) : eSt (b :: s, vs, ws, due, bz) = if isSpc (b &&& 255) = true then some (s, vs, ws, due, bz) else if due = true then (if isDig (b &&& 255) = true then nuE (b :: s) vs ws bz else frE (b &&& 255) s vs ws bz) else if b &&& 255 = 41 then clE s vs ws bz else beE (b :: s) vs ws bz := rfl
theorem btO_lt {s : List Int32} {o : Nat} (h : btO s = some o) : o < 18 ∧ isPr (sgO o) s = true := by
  have h1 := List.mem_of_find?_eq_some h
  have h2 := List.find?_some h
  exact ⟨by simpa using h1, h2⟩
theorem frO_ge {x : Int32} {s : List Int32} {o : Nat} (h : frO x s = some o) : 18 ≤ o ∧ o < 23 := by
  simp only [frO] at h
  repeat' split at h
  all_goals first | (cases h; exact ⟨by decide, by decide⟩) | cases h
set_option maxHeartbeats 4000000 in
set_option maxRecDepth 100000 in
theorem k_takeNumber (l : Launch) (q : ev_T) {b r0 n0 at_ en : Nat} {xs : List Int32} {ov : Bool} {vs : List Int32} {ws : List Nat} {bz : Bool} {g : mu_T} (hS : Shp g) (hE : EX g b at_ en vs ws (frn ws) true bz) (hY : RB g b r0 n0 xs ov) (hn0 : n0 < 1073741824) (hbX : b ∉ XS) (hrX : r0 ∉ XS) (hen : en ≤ xs.length) (hae : at_ ≤ en) (hw : okW ws) (hf : frn ws ≤ 30) (hv : vs.length = btw ws) : Ctr l q M_Ex_takeNumber 3 [.ref 997] (0, 0, g) (fun v w => sK g b en xs (nuE (rsE xs at_ en) vs ws bz) v w.2.2) := by
  have hyn := hY.2.1
  have hl340 := okW_340 hw hf
  have hbl := btw_le ws
  refine Ctr.mk (lb := [some (.ref 997), none, none]) (by decide +kernel) (Nat.le_of_ble_eq_true rfl) rfl rfl ?_
  intro pp ee ss mm aa bb mt cd X hrt hlk hnm
  have tail : ∀ (u : mu_T) (a n : Nat) (v : Int32), EX u b a en vs ws (frn ws) true bz → sm g u XS → a ≤ en → Shp u → n ≤ 10 → (dgs 10 0 0 (rsE xs at_ en)) = (n, v, rsE xs a en) → Vv pp l ee (rmT 3 0 0) ss mm aa bb mt cd 3 q (MQ bb (Qw q (fun v w => sK g b en xs (nuE (rsE xs at_ en) vs ws bz) v w.2.2)) aa ss 0 0 (fun a => q.1 ≤ a)) 74 [some (.ref 997), some (.int v), some (.int (nI n))] [] (0, 0, u) := by
    intro u a n v hEu zu ha hSu hn hD
    have E2 := (hEu.vpush v).due_ false
    have S2 : Shp (xI (xI (xI u 1000 vs.length v) 997 4 (nI (vs.length + 1))) 997 8 (if false = true then 1 else 0)) := hSu.sm ((((sm.rf u XS).xI (by decide)).xI (by decide)).xI (by decide))
    obtain ⟨i1, i2, i3, i4⟩ := rck_inv 11 ws (v :: vs) bz hw (by rw [List.length_cons, hv])
    have hinv : eI (rsE xs a en, (rck 11 ws (v :: vs) bz).1, (rck 11 ws (v :: vs) bz).2.1, false, (rck 11 ws (v :: vs) bz).2.2) := ⟨i1, Nat.le_trans i3 hf, i2⟩
    refine v_iload_n X (dk D_Ex_takeNumber 39 rfl) rfl ?_
    refine v_bipush (v := 9) X (dk D_Ex_takeNumber 40 rfl) (by decide) ?_
    refine v_icmp_gt (tgt := 99) X (dk D_Ex_takeNumber 41 rfl) (by decide) (fun c77 => ?_) (fun c77 => ?_)
    · refine v_iconst (v := 0) X (dk D_Ex_takeNumber 51 rfl) (by decide) ?_
      exact v_zret X hlk hrt rfl (dk D_Ex_takeNumber 52 rfl) (sK_no (by rw [nuE, if_pos (by rw [hD]; exact (nI_ltI (a := 9) (by decide) (by omega)).mp c77)]) zu)
    · refine v_aload_n X (dk D_Ex_takeNumber 42 rfl) rfl ?_
      refine v_getI X (dk D_Ex_takeNumber 43 rfl) F_Ex_74 rfl rfl (hSu.lt (by decide)) ?_
      refine v_if_lt (tgt := 99) X (dk D_Ex_takeNumber 44 rfl) (by decide) (fun c84 => absurd c84 (by rw [hEu.2.2.2.1]; exact nI_pos (by omega))) (fun _ => ?_)
      refine v_aload_n X (dk D_Ex_takeNumber 45 rfl) rfl ?_
      refine v_getI X (dk D_Ex_takeNumber 46 rfl) F_Ex_74 rfl rfl (hSu.lt (by decide)) ?_
      refine v_aload_n X (dk D_Ex_takeNumber 47 rfl) rfl ?_
      refine v_getF X (dk D_Ex_takeNumber 48 rfl) F_Ex_20 rfl rfl (hSu.lt (by decide)) (hSu.2 997 3) ?_
      refine v_alen (v := nI _) X (dk D_Ex_takeNumber 49 rfl) rfl rfl (hSu.lt (by decide)) rfl ?_
      refine v_icmp_lt (tgt := 101) X (dk D_Ex_takeNumber 50 rfl) (by decide) (fun _ => ?_) (fun c96 => absurd (by rw [hEu.2.2.2.1]; exact nI_lt (b := 342) (by omega) (by decide)) c96)
      refine v_aload_n X (dk D_Ex_takeNumber 53 rfl) rfl ?_
      refine v_getF X (dk D_Ex_takeNumber 54 rfl) F_Ex_20 rfl rfl (hSu.lt (by decide)) (hSu.2 997 3) ?_
      refine v_aload_n X (dk D_Ex_takeNumber 55 rfl) rfl ?_
      refine v_getI X (dk D_Ex_takeNumber 56 rfl) F_Ex_74 rfl rfl (hSu.lt (by decide)) ?_
      refine v_iload_n X (dk D_Ex_takeNumber 57 rfl) rfl ?_
      refine v_iast X (dk D_Ex_takeNumber 58 rfl) rfl (hSu.lt (by decide)) (by rw [hEu.2.2.2.1]; exact vp_in_nI (show vs.length < 342 by omega) (by decide)) ?_
      rw [hEu.2.2.2.1, nI_clamp (by omega)]
      refine v_aload_n X (dk D_Ex_takeNumber 59 rfl) rfl ?_
      refine v_dup X (dk D_Ex_takeNumber 60 rfl) rfl ?_
      refine v_getI X (dk D_Ex_takeNumber 61 rfl) F_Ex_74 rfl rfl (hSu.lt (by decide)) ?_
      refine v_iconst (v := 1) X (dk D_Ex_takeNumber 62 rfl) (by decide) ?_
      refine v_iadd X (dk D_Ex_takeNumber 63 rfl) ?_
      rw [show gI (xI u 1000 vs.length v) 997 4 = nI vs.length from (gI_na (by decide)).trans hEu.2.2.2.1, nI_1]
      refine v_putI X (dk D_Ex_takeNumber 64 rfl) F_Ex_74 CK_Ex rfl rfl (hSu.lt (by decide)) rfl rfl ?_
      refine v_aload_n X (dk D_Ex_takeNumber 65 rfl) rfl ?_
      refine v_iconst (v := if false = true then 1 else 0) X (dk D_Ex_takeNumber 66 rfl) (by decide) ?_
      refine v_putI X (dk D_Ex_takeNumber 67 rfl) F_Ex_48 CK_Ex rfl rfl (hSu.lt (by decide)) rfl rfl ?_
      refine v_aload_n X (dk D_Ex_takeNumber 68 rfl) rfl ?_
      refine v_bipush (v := 11) X (dk D_Ex_takeNumber 69 rfl) (by decide) ?_
      refine v_invV (As := [.int 11]) (st := []) X (k_reckon l q S2 E2 hw hf (by rw [List.length_cons, hv]) (by decide)) (dk D_Ex_takeNumber 70 rfl) G_Ex_68 K_Ex_reckon V_Ex_reckon rfl rfl (S2.lt (by decide)) rfl rfl (Nat.le_of_ble_eq_true rfl) (Nat.le_of_ble_eq_true rfl) (Nat.le_of_ble_eq_true rfl) (Nat.le_of_ble_eq_true rfl) (Nat.le_of_ble_eq_true rfl) ?_
      rintro v2 w ⟨rfl, y1, y2⟩
      show Vv _ _ _ _ _ _ _ _ _ _ _ _ _ _ _ [] (0, 0, w.2.2)
      refine v_iconst (v := 1) X (dk D_Ex_takeNumber 71 rfl) (by decide) ?_
      exact v_zret X hlk hrt rfl (dk D_Ex_takeNumber 72 rfl) (sK_yes (a := a) (by rw [nuE, if_neg (by rw [hD]; exact fun z => c77 (nI_lt (a := 9) z (by omega))), hD]) ((((zu.xI (by decide)).xI (by decide)).xI (by decide)).tr y1 (U := XS) (fun _ h => h) (fun _ h => h)) ha rfl y2 hinv)
  have loop : ∀ (d n : Nat) (v : Int32) (u : mu_T) (a : Nat), n + d = 10 → EX u b a en vs ws (frn ws) true bz → sm g u XS → a ≤ en → Shp u → (dgs 10 0 0 (rsE xs at_ en)) = dgs (10 - n) v n (rsE xs a en) → Vv pp l ee (rmT 3 0 0) ss mm aa bb mt cd 3 q (MQ bb (Qw q (fun v w => sK g b en xs (nuE (rsE xs at_ en) vs ws bz) v w.2.2)) aa ss 0 0 (fun a => q.1 ≤ a)) 4 [some (.ref 997), some (.int v), some (.int (nI n))] [] (0, 0, u) := by
    intro d
    induction d with
    | zero =>
      intro n v u a hnd hEu zu ha hSu hD
      have hYu := hY.sm zu hbX hrX
      refine v_iload_n X (dk D_Ex_takeNumber 4 rfl) rfl ?_
      refine v_bipush (v := 9) X (dk D_Ex_takeNumber 5 rfl) (by decide) ?_
      refine v_icmp_gt (tgt := 74) X (dk D_Ex_takeNumber 6 rfl) (by decide) (fun _ => ?_) (fun c7 => absurd (show (9 : Int32) < nI n by rw [show n = 10 by omega]; decide) c7)
      exact tail u a n v hEu zu ha hSu (by omega) (by rw [hD, show 10 - n = 0 by omega]; rfl)
    | succ d ih =>
      intro n v u a hnd hEu zu ha hSu hD
      have hYu := hY.sm zu hbX hrX
      have hk : 10 - n = (10 - (n + 1)) + 1 := by omega
      refine v_iload_n X (dk D_Ex_takeNumber 4 rfl) rfl ?_
      refine v_bipush (v := 9) X (dk D_Ex_takeNumber 5 rfl) (by decide) ?_
      refine v_icmp_gt (tgt := 74) X (dk D_Ex_takeNumber 6 rfl) (by decide) (fun c7 => absurd c7 (nI_nlt (b := n) (a := 9) (by omega) (by omega))) (fun _ => ?_)
      refine v_aload_n X (dk D_Ex_takeNumber 7 rfl) rfl ?_
      refine v_getI X (dk D_Ex_takeNumber 8 rfl) F_Ex_34 rfl rfl (hSu.lt (by decide)) ?_
      rw [hEu.2.1]
      refine v_aload_n X (dk D_Ex_takeNumber 9 rfl) rfl ?_
      refine v_getI X (dk D_Ex_takeNumber 10 rfl) F_Ex_38 rfl rfl (hSu.lt (by decide)) ?_
      rw [hEu.2.2.1]
      refine v_icmp_ge (tgt := 74) X (dk D_Ex_takeNumber 11 rfl) (by decide) (fun c18 => ?_) (fun c18 => ?_)
      · exact tail u a n v hEu zu ha hSu (by omega) (by rw [hD, hk, rsE_nil (show en ≤ a from (nI_leI (by omega) (by omega)).mp c18)]; rfl)
      · have hlt : a < en := Decidable.byContradiction (fun e => c18 (nI_le (by omega) (by omega)))
        refine v_aload_n X (dk D_Ex_takeNumber 12 rfl) rfl ?_
        refine v_getR X (dk D_Ex_takeNumber 13 rfl) F_Ex_14 rfl rfl (hSu.lt (by decide)) hEu.1 ?_
        refine v_aload_n X (dk D_Ex_takeNumber 14 rfl) rfl ?_
        refine v_getI X (dk D_Ex_takeNumber 15 rfl) F_Ex_34 rfl rfl (hSu.lt (by decide)) ?_
        rw [hEu.2.1]
        refine v_invV (As := [.int (nI a)]) (st := []) X (k_at l q hYu) (dk D_Ex_takeNumber 16 rfl) G_Ex_41 K_By_at V_By_at hYu.1.1 rfl hYu.1.2.1 rfl rfl (Nat.le_of_ble_eq_true rfl) (Nat.le_of_ble_eq_true rfl) (Nat.le_of_ble_eq_true rfl) (Nat.le_of_ble_eq_true rfl) (Nat.le_of_ble_eq_true rfl) ?_
        rintro v2 w ⟨rfl, hw2⟩
        rw [hw2, atL_nI (show a < xs.length by omega) (by omega)]
        show Vv _ _ _ _ _ _ _ _ _ _ _ _ _ _ _ [.int (xs.getD a 0 &&& 255)] (0, 0, u)
        refine v_invS (As := [.int (xs.getD a 0 &&& 255)]) (st := []) X (k_isDigit l q (b := xs.getD a 0 &&& 255) (g := u)) (dk D_Ex_takeNumber 17 rfl) G_Ex_52 K_Mi_isDigit S_Mi_isDigit rfl rfl (Nat.le_of_ble_eq_true rfl) (Nat.le_of_ble_eq_true rfl) (Nat.le_of_ble_eq_true rfl) (Nat.le_of_ble_eq_true rfl) (Nat.le_of_ble_eq_true rfl) ?_
        rintro v2 w ⟨rfl, hw2⟩
        rw [hw2]
        show Vv _ _ _ _ _ _ _ _ _ _ _ _ _ _ _ [.int (if isDig (xs.getD a 0 &&& 255) = true then 1 else 0)] (0, 0, u)
        refine v_if_eq (tgt := 74) X (dk D_Ex_takeNumber 18 rfl) (by decide) (fun c35 => ?_) (fun c35 => ?_)
        · exact tail u a n v hEu zu ha hSu (by omega) (by rw [hD, hk, rsE_cons hlt hen, dgs, if_neg (fun e => absurd c35 (by rw [if_pos e]; decide))])
        · refine v_iload_n X (dk D_Ex_takeNumber 19 rfl) rfl ?_
          refine v_bipush (v := 10) X (dk D_Ex_takeNumber 20 rfl) (by decide) ?_
          refine v_imul X (dk D_Ex_takeNumber 21 rfl) ?_
          refine v_aload_n X (dk D_Ex_takeNumber 22 rfl) rfl ?_
          refine v_getR X (dk D_Ex_takeNumber 23 rfl) F_Ex_14 rfl rfl (hSu.lt (by decide)) hEu.1 ?_
          refine v_aload_n X (dk D_Ex_takeNumber 24 rfl) rfl ?_
          refine v_getI X (dk D_Ex_takeNumber 25 rfl) F_Ex_34 rfl rfl (hSu.lt (by decide)) ?_
          rw [hEu.2.1]
          refine v_invV (As := [.int (nI a)]) (st := [.int (v * 10)]) X (k_at l q hYu) (dk D_Ex_takeNumber 26 rfl) G_Ex_41 K_By_at V_By_at hYu.1.1 rfl hYu.1.2.1 rfl rfl (Nat.le_of_ble_eq_true rfl) (Nat.le_of_ble_eq_true rfl) (Nat.le_of_ble_eq_true rfl) (Nat.le_of_ble_eq_true rfl) (Nat.le_of_ble_eq_true rfl) ?_
          rintro v2 w ⟨rfl, hw2⟩
          rw [hw2, atL_nI (show a < xs.length by omega) (by omega)]
          show Vv _ _ _ _ _ _ _ _ _ _ _ _ _ _ _ [.int (xs.getD a 0 &&& 255), .int (v * 10)] (0, 0, u)
          refine v_bipush (v := 48) X (dk D_Ex_takeNumber 27 rfl) (by decide) ?_
          refine v_isub X (dk D_Ex_takeNumber 28 rfl) ?_
          refine v_iadd X (dk D_Ex_takeNumber 29 rfl) ?_
          refine v_istore_n (lb := [some (.ref 997), some (.int (v * 10 + ((xs.getD a 0 &&& 255) - 48))), some (.int (nI n))]) X (dk D_Ex_takeNumber 30 rfl) (by decide) rfl ?_
          refine v_iinc (v := nI (n + 1)) (lb := [some (.ref 997), some (.int (v * 10 + ((xs.getD a 0 &&& 255) - 48))), some (.int (nI (n + 1)))]) X (dk D_Ex_takeNumber 31 rfl) rfl (nI_1 n) (by decide) rfl ?_
          refine v_aload_n X (dk D_Ex_takeNumber 32 rfl) rfl ?_
          refine v_dup X (dk D_Ex_takeNumber 33 rfl) rfl ?_
          refine v_getI X (dk D_Ex_takeNumber 34 rfl) F_Ex_34 rfl rfl (hSu.lt (by decide)) ?_
          refine v_iconst (v := 1) X (dk D_Ex_takeNumber 35 rfl) (by decide) ?_
          refine v_iadd X (dk D_Ex_takeNumber 36 rfl) ?_
          rw [hEu.2.1, nI_1]
          refine v_putI X (dk D_Ex_takeNumber 37 rfl) F_Ex_34 CK_Ex rfl rfl (hSu.lt (by decide)) rfl rfl ?_
          refine v_goto (tgt := 4) X (dk D_Ex_takeNumber 38 rfl) (by decide) ?_
          exact ih (n + 1) _ _ (a + 1) (by omega) (hEu.at_ (a + 1)) (zu.xI (by decide)) (by omega) (hSu.sm ((sm.rf u XS).xI (by decide))) (by rw [hD, hk, rsE_cons (by omega) hen, dgs, if_pos (Decidable.byContradiction (fun e => c35 (if_neg e)))])
  refine v_iconst (v := 0) X (dk D_Ex_takeNumber 0 rfl) (by decide) ?_
  refine v_istore_n (lb := [some (.ref 997), some (.int 0), none]) X (dk D_Ex_takeNumber 1 rfl) (by decide) rfl ?_
  refine v_iconst (v := nI 0) X (dk D_Ex_takeNumber 2 rfl) (by decide) ?_
  refine v_istore_n (lb := [some (.ref 997), some (.int 0), some (.int (nI 0))]) X (dk D_Ex_takeNumber 3 rfl) (by decide) rfl ?_
  exact loop 10 0 0 g at_ (by omega) hE (sm.rf _ _) hae hS rfl
set_option maxHeartbeats 4000000 in
set_option maxRecDepth 100000 in
theorem k_takeInFront (l : Launch) (q : ev_T) {j : Nat} {b r0 n0 at_ en : Nat} {xs : List Int32} {ov : Bool} {vs : List Int32} {ws : List Nat} {bz : Bool} {g : mu_T} (hS : Shp g) (hE : EX g b at_ en vs ws (frn ws) true bz) (hY : RB g b r0 n0 xs ov) (hn0 : n0 < 1073741824) (hbX : b ∉ XS) (hrX : r0 ∉ XS) (hen : en ≤ xs.length) (hae0 : at_ < en) (hw : okW ws) (hf : frn ws ≤ 30) (hv : vs.length = btw ws) (hj : j < 256) : Ctr l q M_Ex_takeInFront 2 [.ref 997, .int (nI j)] (0, 0, g) (fun v w => sK g b en xs (frE (nI j) (rsE xs (at_ + 1) en) vs ws bz) v w.2.2) := by
  have hyn := hY.2.1
  have hl340 := okW_340 hw hf
  have hbl := btw_le ws
  have hae : at_ ≤ en := by omega
  refine Ctr.mk (lb := [some (.ref 997), some (.int (nI j)), none]) (by decide +kernel) (Nat.le_of_ble_eq_true rfl) rfl rfl ?_
  intro pp ee ss mm aa bb mt cd X hrt hlk hnm
  rcases on_or (frO (nI j) (rsE xs (at_ + 1) en)) with hfo | ⟨o, hfo⟩
  · refine v_aload_n X (dk D_Ex_takeInFront 0 rfl) rfl ?_
    refine v_iload_n X (dk D_Ex_takeInFront 1 rfl) rfl ?_
    refine v_invV (As := [.int (nI j)]) (st := []) X (k_inFront l q hS hE hY hn0 hen hae hj) (dk D_Ex_takeInFront 2 rfl) G_Ex_86 K_Ex_inFront V_Ex_inFront rfl rfl (hS.lt (by decide)) rfl rfl (Nat.le_of_ble_eq_true rfl) (Nat.le_of_ble_eq_true rfl) (Nat.le_of_ble_eq_true rfl) (Nat.le_of_ble_eq_true rfl) (Nat.le_of_ble_eq_true rfl) ?_
    rintro v w ⟨rfl, hw2⟩
    rw [hw2, hfo]
    show Vv _ _ _ _ _ _ _ _ _ _ _ _ _ _ _ [.null] (0, 0, g)
    refine v_astore_nN (lb := [some (.ref 997), some (.int (nI j)), some .null]) X (dk D_Ex_takeInFront 3 rfl) (by decide) rfl ?_
    refine v_aload_nN X (dk D_Ex_takeInFront 4 rfl) rfl ?_
    refine v_ifnullN (tgt := 19) X (dk D_Ex_takeInFront 5 rfl) (by decide) ?_
    refine v_iconst (v := 0) X (dk D_Ex_takeInFront 10 rfl) (by decide) ?_
    exact v_zret X hlk hrt rfl (dk D_Ex_takeInFront 11 rfl) (sK_no (by rw [frE, hfo]) (sm.rf _ _))
  · have ho := frO_ge hfo
    have hfr : frn (o :: ws) = frn ws + 1 := by rw [frn, if_pos ho.1]; omega
    have E2 := (hE.ns_ (frn ws + 1)).at_ (at_ + 1)
    have S2 : Shp (xI (xI g 997 7 (nI (frn ws + 1))) 997 1 (nI (at_ + 1))) := hS.sm (((sm.rf g XS).xI (by decide)).xI (by decide))
    refine v_aload_n X (dk D_Ex_takeInFront 0 rfl) rfl ?_
    refine v_iload_n X (dk D_Ex_takeInFront 1 rfl) rfl ?_
    refine v_invV (As := [.int (nI j)]) (st := []) X (k_inFront l q hS hE hY hn0 hen hae hj) (dk D_Ex_takeInFront 2 rfl) G_Ex_86 K_Ex_inFront V_Ex_inFront rfl rfl (hS.lt (by decide)) rfl rfl (Nat.le_of_ble_eq_true rfl) (Nat.le_of_ble_eq_true rfl) (Nat.le_of_ble_eq_true rfl) (Nat.le_of_ble_eq_true rfl) (Nat.le_of_ble_eq_true rfl) ?_
    rintro v w ⟨rfl, hw2⟩
    rw [hw2, hfo]
    show Vv _ _ _ _ _ _ _ _ _ _ _ _ _ _ _ [.ref (1048600 + o)] (0, 0, g)
    refine v_astore_n (lb := [some (.ref 997), some (.int (nI j)), some (.ref (1048600 + o))]) X (dk D_Ex_takeInFront 3 rfl) (by decide) rfl ?_
    refine v_aload_n X (dk D_Ex_takeInFront 4 rfl) rfl ?_
    refine v_ifnull X (dk D_Ex_takeInFront 5 rfl) ?_
    refine v_aload_n X (dk D_Ex_takeInFront 6 rfl) rfl ?_
    refine v_getI X (dk D_Ex_takeInFront 7 rfl) F_Ex_83 rfl rfl (hS.lt (by decide)) ?_
    rw [hE.2.2.2.2.2.1]
    refine v_bipush (v := 30) X (dk D_Ex_takeInFront 8 rfl) (by decide) ?_
    refine v_icmp_lt (tgt := 21) X (dk D_Ex_takeInFront 9 rfl) (by decide) (fun c16 => ?_) (fun c16 => ?_)
    · refine v_aload_n X (dk D_Ex_takeInFront 12 rfl) rfl ?_
      refine v_dup X (dk D_Ex_takeInFront 13 rfl) rfl ?_
      refine v_getI X (dk D_Ex_takeInFront 14 rfl) F_Ex_83 rfl rfl (hS.lt (by decide)) ?_
      refine v_iconst (v := 1) X (dk D_Ex_takeInFront 15 rfl) (by decide) ?_
      refine v_iadd X (dk D_Ex_takeInFront 16 rfl) ?_
      rw [hE.2.2.2.2.2.1, nI_1]
      refine v_putI X (dk D_Ex_takeInFront 17 rfl) F_Ex_83 CK_Ex rfl rfl (hS.lt (by decide)) rfl rfl ?_
      refine v_aload_n X (dk D_Ex_takeInFront 18 rfl) rfl ?_
      refine v_dup X (dk D_Ex_takeInFront 19 rfl) rfl ?_
      refine v_getI X (dk D_Ex_takeInFront 20 rfl) F_Ex_34 rfl rfl (hS.lt (by decide)) ?_
      refine v_iconst (v := 1) X (dk D_Ex_takeInFront 21 rfl) (by decide) ?_
      refine v_iadd X (dk D_Ex_takeInFront 22 rfl) ?_
      rw [show gI (xI g 997 7 (nI (frn ws + 1))) 997 1 = nI at_ from (gI_nk (by decide)).trans hE.2.1, nI_1]
      refine v_putI X (dk D_Ex_takeInFront 23 rfl) F_Ex_34 CK_Ex rfl rfl (hS.lt (by decide)) rfl rfl ?_
      refine v_aload_n X (dk D_Ex_takeInFront 24 rfl) rfl ?_
      refine v_aload_n X (dk D_Ex_takeInFront 25 rfl) rfl ?_
      refine v_invV (As := [.ref (1048600 + o)]) (st := []) X (k_await l q S2 E2 ho.2 (by omega)) (dk D_Ex_takeInFront 26 rfl) G_Ex_90 K_Ex_await V_Ex_await rfl rfl (hS.lt (by decide)) rfl rfl (Nat.le_of_ble_eq_true rfl) (Nat.le_of_ble_eq_true rfl) (Nat.le_of_ble_eq_true rfl) (Nat.le_of_ble_eq_true rfl) (Nat.le_of_ble_eq_true rfl) ?_
      rintro v w ⟨rfl, y1, y2⟩
      show Vv _ _ _ _ _ _ _ _ _ _ _ _ _ _ _ [.int 1] (0, 0, w.2.2)
      exact v_zret X hlk hrt rfl (dk D_Ex_takeInFront 27 rfl) (sK_yes (e := (rsE xs (at_ + 1) en, vs, o :: ws, true, bz)) (a := at_ + 1) (by rw [frE, hfo]; exact if_neg (by have := (nI_ltI (b := 30) (by omega) (by decide)).mp c16; omega)) ((((sm.rf g _).xI (by decide)).xI (by decide)).tr y1 (U := XS) (fun _ h => h) (fun _ h => h)) (by omega) rfl (by show EX _ _ _ _ _ _ (frn (o :: ws)) _ _; rw [hfr]; exact y2) ⟨⟨ho.2, hw, fun p r _ h => by omega⟩, by show frn (o :: ws) ≤ 30; rw [hfr]; have := (nI_ltI (b := 30) (by omega) (by decide)).mp c16; omega, by show vs.length = btw (o :: ws) + 0; rw [btw, if_pos ho.1]; omega⟩)
    · refine v_iconst (v := 0) X (dk D_Ex_takeInFront 10 rfl) (by decide) ?_
      exact v_zret X hlk hrt rfl (dk D_Ex_takeInFront 11 rfl) (sK_no (by rw [frE, hfo]; exact if_pos (Decidable.byContradiction (fun e => c16 (nI_lt (b := 30) (by omega) (by decide))))) (sm.rf _ _))
theorem op1 : ∀ o, o < 18 → (1 : Int32) ≤ opS o := by decide +kernel
set_option maxHeartbeats 4000000 in
set_option maxRecDepth 100000 in
theorem k_takeBetween (l : Launch) (q : ev_T) {b r0 n0 at_ en : Nat} {xs : List Int32} {ov : Bool} {vs : List Int32} {ws : List Nat} {bz : Bool} {g : mu_T} (hS : Shp g) (hE : EX g b at_ en vs ws (frn ws) false bz) (hY : RB g b r0 n0 xs ov) (hn0 : n0 < 1073741824) (hbX : b ∉ XS) (hrX : r0 ∉ XS) (hen : en ≤ xs.length) (hae : at_ ≤ en) (hw : okW ws) (hf : frn ws ≤ 30) (hv : vs.length = btw ws + 1) : Ctr l q M_Ex_takeBetween 6 [.ref 997] (0, 0, g) (fun v w => sK g b en xs (beE (rsE xs at_ en) vs ws bz) v w.2.2) := by
  have hyn := hY.2.1
  have hl340 := okW_340 hw hf
  have hbl := btw_le ws
  refine Ctr.mk (lb := [some (.ref 997), none]) (by decide +kernel) (Nat.le_of_ble_eq_true rfl) rfl rfl ?_
  intro pp ee ss mm aa bb mt cd X hrt hlk hnm
  rcases on_or (btO (rsE xs at_ en)) with hbo | ⟨o, hbo⟩
  · refine v_aload_n X (dk D_Ex_takeBetween 0 rfl) rfl ?_
    refine v_invV (As := []) (st := []) X (k_between l q hS hE hY hn0 hen hae) (dk D_Ex_takeBetween 1 rfl) G_Ex_110 K_Ex_between V_Ex_between rfl rfl (hS.lt (by decide)) rfl rfl (Nat.le_of_ble_eq_true rfl) (Nat.le_of_ble_eq_true rfl) (Nat.le_of_ble_eq_true rfl) (Nat.le_of_ble_eq_true rfl) (Nat.le_of_ble_eq_true rfl) ?_
    rintro v w ⟨rfl, hw2⟩
    rw [hw2, hbo]
    show Vv _ _ _ _ _ _ _ _ _ _ _ _ _ _ _ [.null] (0, 0, g)
    refine v_astore_nN (lb := [some (.ref 997), some .null]) X (dk D_Ex_takeBetween 2 rfl) (by decide) rfl ?_
    refine v_aload_nN X (dk D_Ex_takeBetween 3 rfl) rfl ?_
    refine v_ifnonnullN X (dk D_Ex_takeBetween 4 rfl) ?_
    refine v_iconst (v := 0) X (dk D_Ex_takeBetween 5 rfl) (by decide) ?_
    exact v_zret X hlk hrt rfl (dk D_Ex_takeBetween 6 rfl) (sK_no (by rw [beE, hbo]) (sm.rf _ _))
  · have hlt := btO_lt hbo
    have hsl : at_ + (sgO o).length ≤ en := by have := (of_decide_eq_true hlt.2).1; rw [rsE_len hen] at this; omega
    obtain ⟨i1, i2, i3, i4⟩ := rck_inv (opS o) ws vs bz hw hv
    have hfr : frn (o :: (rck (opS o) ws vs bz).2.1) = frn (rck (opS o) ws vs bz).2.1 := by rw [frn, if_neg (by omega)]; omega
    refine v_aload_n X (dk D_Ex_takeBetween 0 rfl) rfl ?_
    refine v_invV (As := []) (st := []) X (k_between l q hS hE hY hn0 hen hae) (dk D_Ex_takeBetween 1 rfl) G_Ex_110 K_Ex_between V_Ex_between rfl rfl (hS.lt (by decide)) rfl rfl (Nat.le_of_ble_eq_true rfl) (Nat.le_of_ble_eq_true rfl) (Nat.le_of_ble_eq_true rfl) (Nat.le_of_ble_eq_true rfl) (Nat.le_of_ble_eq_true rfl) ?_
    rintro v w ⟨rfl, hw2⟩
    rw [hw2, hbo]
    show Vv _ _ _ _ _ _ _ _ _ _ _ _ _ _ _ [.ref (1048600 + o)] (0, 0, g)
    refine v_astore_n (lb := [some (.ref 997), some (.ref (1048600 + o))]) X (dk D_Ex_takeBetween 2 rfl) (by decide) rfl ?_
    refine v_aload_n X (dk D_Ex_takeBetween 3 rfl) rfl ?_
    refine v_ifnonnull (tgt := 11) X (dk D_Ex_takeBetween 4 rfl) (by decide) ?_
    refine v_aload_n X (dk D_Ex_takeBetween 7 rfl) rfl ?_
    refine v_aload_n X (dk D_Ex_takeBetween 8 rfl) rfl ?_
    refine v_sget (v := .int (opS o)) X (dk D_Ex_takeBetween 9 rfl) Z_Ex_114 (X.sf.2.1 o (by omega)).2.2.1 ?_
    refine v_invV (As := [.int (opS o)]) (st := []) X (k_reckon l q hS hE hw hf hv (op1 o hlt.1)) (dk D_Ex_takeBetween 10 rfl) G_Ex_68 K_Ex_reckon V_Ex_reckon rfl rfl (hS.lt (by decide)) rfl rfl (Nat.le_of_ble_eq_true rfl) (Nat.le_of_ble_eq_true rfl) (Nat.le_of_ble_eq_true rfl) (Nat.le_of_ble_eq_true rfl) (Nat.le_of_ble_eq_true rfl) ?_
    rintro v w ⟨rfl, y1, y2⟩
    have S1 := hS.sm y1
    show Vv _ _ _ _ _ _ _ _ _ _ _ _ _ _ _ [] (0, 0, w.2.2)
    refine v_aload_n X (dk D_Ex_takeBetween 11 rfl) rfl ?_
    refine v_dup X (dk D_Ex_takeBetween 12 rfl) rfl ?_
    refine v_getI X (dk D_Ex_takeBetween 13 rfl) F_Ex_34 rfl rfl (S1.lt (by decide)) ?_
    rw [y2.2.1]
    refine v_aload_n X (dk D_Ex_takeBetween 14 rfl) rfl ?_
    refine v_sget (v := .ref (1048640 + op_S.getD o 0)) X (dk D_Ex_takeBetween 15 rfl) Z_Ex_117 (X.sf.2.1 o (by omega)).2.2.2.1 ?_
    refine v_invVS (b := 1048640 + op_S.getD o 0) (As := []) (st := [.int (nI at_), .ref 997]) X (c_St_length l q (opS_tx o (by omega))) (dk D_Ex_takeBetween 16 rfl) g_Ex_121 K_St_length V_St_length (X.sf.2.2.1 (op_S.getD o 0) (opS_tx o (by omega))).1 rfl rfl (Nat.le_of_ble_eq_true rfl) (Nat.le_of_ble_eq_true rfl) (Nat.le_of_ble_eq_true rfl) (Nat.le_of_ble_eq_true rfl) (Nat.le_of_ble_eq_true rfl) ?_
    rintro v w3 ⟨rfl, hw3⟩
    rw [hw3]
    show Vv _ _ _ _ _ _ _ _ _ _ _ _ _ _ _ [.int (nI (sgO o).length), .int (nI at_), .ref 997] (0, 0, w.2.2)
    refine v_iadd X (dk D_Ex_takeBetween 17 rfl) ?_
    rw [nI_add]
    refine v_putI X (dk D_Ex_takeBetween 18 rfl) F_Ex_34 CK_Ex rfl rfl (S1.lt (by decide)) rfl rfl ?_
    refine v_aload_n X (dk D_Ex_takeBetween 19 rfl) rfl ?_
    refine v_iconst (v := if true = true then 1 else 0) X (dk D_Ex_takeBetween 20 rfl) (by decide) ?_
    refine v_putI X (dk D_Ex_takeBetween 21 rfl) F_Ex_48 CK_Ex rfl rfl (S1.lt (by decide)) rfl rfl ?_
    refine v_aload_n X (dk D_Ex_takeBetween 22 rfl) rfl ?_
    refine v_aload_n X (dk D_Ex_takeBetween 23 rfl) rfl ?_
    have E2 := (y2.at_ (at_ + (sgO o).length)).due_ true
    have S2 : Shp (xI (xI w.2.2 997 1 (nI (at_ + (sgO o).length))) 997 8 (if true = true then 1 else 0)) := S1.sm (((sm.rf _ XS).xI (by decide)).xI (by decide))
    refine v_invV (As := [.ref (1048600 + o)]) (st := []) X (k_await l q S2 E2 (by omega) (by have := okW_340 i1 (Nat.le_trans i3 hf); omega)) (dk D_Ex_takeBetween 24 rfl) G_Ex_90 K_Ex_await V_Ex_await rfl rfl (S2.lt (by decide)) rfl rfl (Nat.le_of_ble_eq_true rfl) (Nat.le_of_ble_eq_true rfl) (Nat.le_of_ble_eq_true rfl) (Nat.le_of_ble_eq_true rfl) (Nat.le_of_ble_eq_true rfl) ?_
    rintro v w4 ⟨rfl, y3, y4⟩
    show Vv _ _ _ _ _ _ _ _ _ _ _ _ _ _ _ [.int 1] (0, 0, w4.2.2)
    exact v_zret X hlk hrt rfl (dk D_Ex_takeBetween 25 rfl) (sK_yes (e := ((rsE xs at_ en).drop (sgO o).length, (rck (opS o) ws vs bz).1, o :: (rck (opS o) ws vs bz).2.1, true, (rck (opS o) ws vs bz).2.2)) (a := at_ + (sgO o).length) (by rw [beE, hbo]) (((((y1.xI (by decide)).xI (by decide)).tr y3 (U := XS) (fun _ h => h) (fun _ h => h)))) (by omega) (by rw [rsE_drop]) (by show EX _ _ _ _ _ _ (frn (o :: (rck (opS o) ws vs bz).2.1)) _ _; rw [hfr]; exact y4) ⟨⟨by omega, i1, fun p r hp _ _ => i4 p r hp⟩, by show frn (o :: (rck (opS o) ws vs bz).2.1) ≤ 30; rw [hfr]; omega, by show (rck (opS o) ws vs bz).1.length = btw (o :: (rck (opS o) ws vs bz).2.1) + 0; rw [btw, if_neg (by omega)]; omega⟩)
set_option maxHeartbeats 4000000 in
set_option maxRecDepth 100000 in
theorem k_takeClosing (l : Launch) (q : ev_T) {b r0 n0 at_ en : Nat} {xs : List Int32} {ov : Bool} {vs : List Int32} {ws : List Nat} {bz : Bool} {g : mu_T} (hS : Shp g) (hE : EX g b at_ en vs ws (frn ws) false bz) (hY : RB g b r0 n0 xs ov) (hn0 : n0 < 1073741824) (hbX : b ∉ XS) (hrX : r0 ∉ XS) (hen : en ≤ xs.length) (hae0 : at_ < en) (hw : okW ws) (hf : frn ws ≤ 30) (hv : vs.length = btw ws + 1) : Ctr l q M_Ex_takeClosing 3 [.ref 997] (0, 0, g) (fun v w => sK g b en xs (clE (rsE xs (at_ + 1) en) vs ws bz) v w.2.2) := by
  have hyn := hY.2.1
  have hl340 := okW_340 hw hf
  have hbl := btw_le ws
  obtain ⟨i1, i2, i3, i4⟩ := rck_inv 1 ws vs bz hw hv
  refine Ctr.mk (lb := [some (.ref 997)]) (by decide +kernel) (Nat.le_of_ble_eq_true rfl) rfl rfl ?_
  intro pp ee ss mm aa bb mt cd X hrt hlk hnm
  rcases (show (rck 1 ws vs bz).2.1 = [] ∨ ∃ p w, (rck 1 ws vs bz).2.1 = p :: w by cases (rck 1 ws vs bz).2.1 with | nil => exact Or.inl rfl | cons p w => exact Or.inr ⟨p, w, rfl⟩) with hcl | ⟨p, w, hcl⟩
  · refine v_aload_n X (dk D_Ex_takeClosing 0 rfl) rfl ?_
    refine v_iconst (v := 1) X (dk D_Ex_takeClosing 1 rfl) (by decide) ?_
    refine v_invV (As := [.int 1]) (st := []) X (k_reckon l q hS hE hw hf hv (by decide)) (dk D_Ex_takeClosing 2 rfl) G_Ex_68 K_Ex_reckon V_Ex_reckon rfl rfl (hS.lt (by decide)) rfl rfl (Nat.le_of_ble_eq_true rfl) (Nat.le_of_ble_eq_true rfl) (Nat.le_of_ble_eq_true rfl) (Nat.le_of_ble_eq_true rfl) (Nat.le_of_ble_eq_true rfl) ?_
    rintro v w1 ⟨rfl, y1, y2⟩
    have S1 := hS.sm y1
    show Vv _ _ _ _ _ _ _ _ _ _ _ _ _ _ _ [] (0, 0, w1.2.2)
    refine v_aload_n X (dk D_Ex_takeClosing 3 rfl) rfl ?_
    refine v_getI X (dk D_Ex_takeClosing 4 rfl) F_Ex_71 rfl rfl (S1.lt (by decide)) ?_
    refine v_if_ne (tgt := 14) X (dk D_Ex_takeClosing 5 rfl) (by decide) (fun c9 => absurd (by rw [y2.2.2.2.2.1, hcl]; rfl) c9) (fun _ => ?_)
    refine v_iconst (v := 0) X (dk D_Ex_takeClosing 6 rfl) (by decide) ?_
    exact v_zret X hlk hrt rfl (dk D_Ex_takeClosing 7 rfl) (sK_no (by rw [clE, hcl]) y1)
  · have hp22 := op22 p (by rw [hcl] at i1; exact i1.1) (i4 p w hcl)
    subst hp22
    have hfr : frn (22 :: w) = frn w + 1 := by rw [frn, if_pos (by decide)]; omega
    have hwr : okW w := by rw [hcl] at i1; exact i1.2.1
    have hfr2 : frn w ≤ 30 := by rw [hcl, hfr] at i3; omega
    have hvr : (rck 1 ws vs bz).1.length = btw w + 1 := by rw [i2, hcl, btw, if_pos (by decide)]; omega
    have hwl : w.length ≤ 340 := okW_340 hwr hfr2
    obtain ⟨j1, j2, j3, j4⟩ := rck_inv 11 w (rck 1 ws vs bz).1 (rck 1 ws vs bz).2.2 hwr hvr
    refine v_aload_n X (dk D_Ex_takeClosing 0 rfl) rfl ?_
    refine v_iconst (v := 1) X (dk D_Ex_takeClosing 1 rfl) (by decide) ?_
    refine v_invV (As := [.int 1]) (st := []) X (k_reckon l q hS hE hw hf hv (by decide)) (dk D_Ex_takeClosing 2 rfl) G_Ex_68 K_Ex_reckon V_Ex_reckon rfl rfl (hS.lt (by decide)) rfl rfl (Nat.le_of_ble_eq_true rfl) (Nat.le_of_ble_eq_true rfl) (Nat.le_of_ble_eq_true rfl) (Nat.le_of_ble_eq_true rfl) (Nat.le_of_ble_eq_true rfl) ?_
    rintro v w1 ⟨rfl, y1, y2⟩
    have S1 := hS.sm y1
    show Vv _ _ _ _ _ _ _ _ _ _ _ _ _ _ _ [] (0, 0, w1.2.2)
    refine v_aload_n X (dk D_Ex_takeClosing 3 rfl) rfl ?_
    refine v_getI X (dk D_Ex_takeClosing 4 rfl) F_Ex_71 rfl rfl (S1.lt (by decide)) ?_
    refine v_if_ne (tgt := 14) X (dk D_Ex_takeClosing 5 rfl) (by decide) (fun _ => ?_) (fun c9 => absurd c9 (by rw [y2.2.2.2.2.1, hcl]; exact nI_ne0 (by simp) (by simp; omega)))
    refine v_aload_n X (dk D_Ex_takeClosing 8 rfl) rfl ?_
    refine v_dup X (dk D_Ex_takeClosing 9 rfl) rfl ?_
    refine v_getI X (dk D_Ex_takeClosing 10 rfl) F_Ex_71 rfl rfl (S1.lt (by decide)) ?_
    refine v_iconst (v := 1) X (dk D_Ex_takeClosing 11 rfl) (by decide) ?_
    refine v_isub X (dk D_Ex_takeClosing 12 rfl) ?_
    rw [y2.2.2.2.2.1, hcl, List.length_cons, nI_pred]
    refine v_putI X (dk D_Ex_takeClosing 13 rfl) F_Ex_71 CK_Ex rfl rfl (S1.lt (by decide)) rfl rfl ?_
    refine v_aload_n X (dk D_Ex_takeClosing 14 rfl) rfl ?_
    refine v_dup X (dk D_Ex_takeClosing 15 rfl) rfl ?_
    refine v_getI X (dk D_Ex_takeClosing 16 rfl) F_Ex_83 rfl rfl (S1.lt (by decide)) ?_
    refine v_iconst (v := 1) X (dk D_Ex_takeClosing 17 rfl) (by decide) ?_
    refine v_isub X (dk D_Ex_takeClosing 18 rfl) ?_
    rw [show gI (xI w1.2.2 997 6 (nI w.length)) 997 7 = nI (frn w + 1) from (gI_nk (by decide)).trans (by rw [y2.2.2.2.2.2.1, hcl, hfr]), nI_pred]
    refine v_putI X (dk D_Ex_takeClosing 19 rfl) F_Ex_83 CK_Ex rfl rfl (S1.lt (by decide)) rfl rfl ?_
    refine v_aload_n X (dk D_Ex_takeClosing 20 rfl) rfl ?_
    refine v_dup X (dk D_Ex_takeClosing 21 rfl) rfl ?_
    refine v_getI X (dk D_Ex_takeClosing 22 rfl) F_Ex_34 rfl rfl (S1.lt (by decide)) ?_
    refine v_iconst (v := 1) X (dk D_Ex_takeClosing 23 rfl) (by decide) ?_
    refine v_iadd X (dk D_Ex_takeClosing 24 rfl) ?_
    rw [show gI (xI (xI w1.2.2 997 6 (nI w.length)) 997 7 (nI (frn w))) 997 1 = nI at_ from (gI_nk (by decide)).trans ((gI_nk (by decide)).trans y2.2.1), nI_1]
    refine v_putI X (dk D_Ex_takeClosing 25 rfl) F_Ex_34 CK_Ex rfl rfl (S1.lt (by decide)) rfl rfl ?_
    refine v_aload_n X (dk D_Ex_takeClosing 26 rfl) rfl ?_
    refine v_bipush (v := 11) X (dk D_Ex_takeClosing 27 rfl) (by decide) ?_
    have E0 := y2
    rw [hcl] at E0
    have E2 := ((E0.wpop).ns_ (frn w)).at_ (at_ + 1)
    have S2 : Shp (xI (xI (xI w1.2.2 997 6 (nI w.length)) 997 7 (nI (frn w))) 997 1 (nI (at_ + 1))) := S1.sm ((((sm.rf _ XS).xI (by decide)).xI (by decide)).xI (by decide))
    refine v_invV (As := [.int 11]) (st := []) X (k_reckon l q S2 E2 hwr hfr2 hvr (by decide)) (dk D_Ex_takeClosing 28 rfl) G_Ex_68 K_Ex_reckon V_Ex_reckon rfl rfl (S2.lt (by decide)) rfl rfl (Nat.le_of_ble_eq_true rfl) (Nat.le_of_ble_eq_true rfl) (Nat.le_of_ble_eq_true rfl) (Nat.le_of_ble_eq_true rfl) (Nat.le_of_ble_eq_true rfl) ?_
    rintro v w4 ⟨rfl, y3, y4⟩
    show Vv _ _ _ _ _ _ _ _ _ _ _ _ _ _ _ [] (0, 0, w4.2.2)
    refine v_iconst (v := 1) X (dk D_Ex_takeClosing 29 rfl) (by decide) ?_
    exact v_zret X hlk hrt rfl (dk D_Ex_takeClosing 30 rfl) (sK_yes (a := at_ + 1) (by rw [clE, hcl]) ((((y1.xI (by decide)).xI (by decide)).xI (by decide)).tr y3 (U := XS) (fun _ h => h) (fun _ h => h)) (by omega) rfl y4 ⟨j1, Nat.le_trans j3 hfr2, j2⟩)
