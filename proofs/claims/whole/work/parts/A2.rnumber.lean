/-! the reference: numbers -/
theorem nmD_step {b : Int32} {s : List Int32} {v : Int32} (hb : isByte b) (h : isDig (b &&& 255) = true) : nmD (b :: s) v = nmD s (10 * v + b - 48) := by
  rw [nmD, if_pos h, dig_b hb h, Int32.mul_comm, Int32.sub_eq_add_neg, Int32.sub_eq_add_neg, Int32.add_assoc]
theorem nmD_no {b : Int32} {s : List Int32} {v : Int32} (h : ¬ isDig (b &&& 255) = true) : nmD (b :: s) v = none := by
  rw [nmD, if_neg h]
set_option maxHeartbeats 4000000 in
set_option maxRecDepth 100000 in
theorem r_number (l : Launch) (q : ev_T) {i : Nat} {f : Fr} {r : List Fr} {g : mu_T} (hS : Shp g) (hC : AC g f r) (hi : i < 10000) : Ctr l q M_Rf_number 2 [.ref 1003, .int (nI (na r)), .int (nI (i + 1))] (0, 0, g) (fun v w => ∃ x, v = some (.int x) ∧ (∀ y, nmX (f.2.1.getD i []) = some y → x = y ∧ w.2.2 = g) ∧ (nmX (f.2.1.getD i []) = none → w.2.2 = (if gI g 1003 2 = 0 then xI (xI g 1003 2 36) 1003 3 (gI g 1003 10) else g))) := by
  have hle := ag_le (f := f) (r := r) i
  have h16 := hC.1.1.2.2
  have hrow := hC.1.1.arg i
  refine Ctr.mk (lb := [some (.ref 1003), some (.int (nI (na r))), some (.int (nI (i + 1))), none, none, none, none, none, none, none]) (by decide +kernel) (Nat.le_of_ble_eq_true rfl) rfl rfl ?_
  intro pp ee ss mm aa bb mt cd X hrt hlk hnm
  refine v_inv (fun hBB _ => ?_)
  have hbt : ∀ x ∈ (f.2.1.getD i []), isByte x := rw_byte hBB (r := 1018) (N := 16385) rfl hrow
  have fin01 : ∀ (v0 dg : Int32) (k : Nat), nmX (f.2.1.getD i []) = some v0 → Vv pp l ee (rmT 2 0 0) ss mm aa bb mt cd 10 q (MQ bb (Qw q (fun v w => ∃ x, v = some (.int x) ∧ (∀ y, nmX (f.2.1.getD i []) = some y → x = y ∧ w.2.2 = g) ∧ (nmX (f.2.1.getD i []) = none → w.2.2 = (if gI g 1003 2 = 0 then xI (xI g 1003 2 36) 1003 3 (gI g 1003 10) else g)))) aa ss 0 0 (fun a => q.1 ≤ a)) 147 [some (.ref 1003), some (.int (nI (na r))), some (.int (nI (i + 1))), some (.int (nI (f.2.1.getD i []).length)), some (.int (nI (stA f r i))), some (.int 0), some (.int dg), some (.int 1), some (.int v0), some (.int (nI k))] [] (0, 0, g) := by
    intro v0 dg k hX
    refine v_iload X (dk D_Rf_number 79 rfl) rfl ?_
    refine v_if_ne (tgt := 158) X (dk D_Rf_number 80 rfl) (by decide) (fun _ => ?_) (fun c149 => absurd c149 (by decide))
    refine v_iload X (dk D_Rf_number 84 rfl) rfl ?_
    refine v_if_eq (tgt := 169) X (dk D_Rf_number 85 rfl) (by decide) (fun _ => ?_) (fun c160 => absurd rfl c160)
    refine v_iload X (dk D_Rf_number 89 rfl) rfl ?_
    exact v_iret X hlk hrt (dk D_Rf_number 90 rfl) ⟨_, rfl, fun y hy => ⟨by rw [hX] at hy; exact Option.some.inj hy, rfl⟩, fun hn => by rw [hX] at hn; cases hn⟩
  have fin00 : ∀ (v0 dg : Int32) (k : Nat), nmX (f.2.1.getD i []) = none → Vv pp l ee (rmT 2 0 0) ss mm aa bb mt cd 10 q (MQ bb (Qw q (fun v w => ∃ x, v = some (.int x) ∧ (∀ y, nmX (f.2.1.getD i []) = some y → x = y ∧ w.2.2 = g) ∧ (nmX (f.2.1.getD i []) = none → w.2.2 = (if gI g 1003 2 = 0 then xI (xI g 1003 2 36) 1003 3 (gI g 1003 10) else g)))) aa ss 0 0 (fun a => q.1 ≤ a)) 147 [some (.ref 1003), some (.int (nI (na r))), some (.int (nI (i + 1))), some (.int (nI (f.2.1.getD i []).length)), some (.int (nI (stA f r i))), some (.int 0), some (.int dg), some (.int 0), some (.int v0), some (.int (nI k))] [] (0, 0, g) := by
    intro v0 dg k hX
    refine v_iload X (dk D_Rf_number 79 rfl) rfl ?_
    refine v_if_ne (tgt := 158) X (dk D_Rf_number 80 rfl) (by decide) (fun c149 => absurd rfl c149) (fun _ => ?_)
    refine v_aload_n X (dk D_Rf_number 81 rfl) rfl ?_
    refine v_bipush (v := 36) X (dk D_Rf_number 82 rfl) (by decide) ?_
    refine v_invV (As := [.int 36]) (st := []) X (r_fail1 l q (n := 36) hS) (dk D_Rf_number 83 rfl) G_Rf_84 K_Rf_fail1 V_Rf_fail1 rfl rfl (hS.lt (by decide)) rfl rfl (Nat.le_of_ble_eq_true rfl) (Nat.le_of_ble_eq_true rfl) (Nat.le_of_ble_eq_true rfl) (Nat.le_of_ble_eq_true rfl) (Nat.le_of_ble_eq_true rfl) ?_
    rintro v w1 ⟨rfl, hw⟩
    rw [hw]
    show Vv _ _ _ _ _ _ _ _ _ _ _ _ _ _ _ [] (0, 0, (if gI g 1003 2 = 0 then xI (xI g 1003 2 36) 1003 3 (gI g 1003 10) else g))
    refine v_iload X (dk D_Rf_number 84 rfl) rfl ?_
    refine v_if_eq (tgt := 169) X (dk D_Rf_number 85 rfl) (by decide) (fun _ => ?_) (fun c160 => absurd rfl c160)
    refine v_iload X (dk D_Rf_number 89 rfl) rfl ?_
    exact v_iret X hlk hrt (dk D_Rf_number 90 rfl) ⟨_, rfl, fun y hy => (by rw [hX] at hy; cases hy), fun _ => rfl⟩
  have bad0 : nmX (f.2.1.getD i []) = none → ∀ (k : Nat) (v0 dg : Int32), k ≤ (f.2.1.getD i []).length + 1 → Vv pp l ee (rmT 2 0 0) ss mm aa bb mt cd 10 q (MQ bb (Qw q (fun v w => ∃ x, v = some (.int x) ∧ (∀ y, nmX (f.2.1.getD i []) = some y → x = y ∧ w.2.2 = g) ∧ (nmX (f.2.1.getD i []) = none → w.2.2 = (if gI g 1003 2 = 0 then xI (xI g 1003 2 36) 1003 3 (gI g 1003 10) else g)))) aa ss 0 0 (fun a => q.1 ≤ a)) 90 [some (.ref 1003), some (.int (nI (na r))), some (.int (nI (i + 1))), some (.int (nI (f.2.1.getD i []).length)), some (.int (nI (stA f r i))), some (.int 0), some (.int dg), some (.int 0), some (.int v0), some (.int (nI k))] [] (0, 0, g) := by
    intro hno k v0 dg hk
    by_cases c : (f.2.1.getD i []).length ≤ k
    · refine v_iload X (dk D_Rf_number 49 rfl) rfl ?_
      refine v_iload_n X (dk D_Rf_number 50 rfl) rfl ?_
      refine v_icmp_ge (tgt := 147) X (dk D_Rf_number 51 rfl) (by decide) (fun _ => ?_) (fun c93 => absurd (nI_le (by omega) (by omega)) c93)
      exact fin00 _ _ k hno
    · refine v_iload X (dk D_Rf_number 49 rfl) rfl ?_
      refine v_iload_n X (dk D_Rf_number 50 rfl) rfl ?_
      refine v_icmp_ge (tgt := 147) X (dk D_Rf_number 51 rfl) (by decide) (fun c93 => absurd c93 (nI_ge (by omega) (by omega))) (fun _ => ?_)
      refine v_iload X (dk D_Rf_number 52 rfl) rfl ?_
      refine v_if_eq (tgt := 147) X (dk D_Rf_number 53 rfl) (by decide) (fun _ => ?_) (fun c98 => absurd rfl c98)
      exact fin00 _ _ k hno
  have loop0 : ∀ (d k : Nat) (v0 dg : Int32), k + d = (f.2.1.getD i []).length → nmX (f.2.1.getD i []) = nmD ((f.2.1.getD i []).drop k) v0 → Vv pp l ee (rmT 2 0 0) ss mm aa bb mt cd 10 q (MQ bb (Qw q (fun v w => ∃ x, v = some (.int x) ∧ (∀ y, nmX (f.2.1.getD i []) = some y → x = y ∧ w.2.2 = g) ∧ (nmX (f.2.1.getD i []) = none → w.2.2 = (if gI g 1003 2 = 0 then xI (xI g 1003 2 36) 1003 3 (gI g 1003 10) else g)))) aa ss 0 0 (fun a => q.1 ≤ a)) 90 [some (.ref 1003), some (.int (nI (na r))), some (.int (nI (i + 1))), some (.int (nI (f.2.1.getD i []).length)), some (.int (nI (stA f r i))), some (.int 0), some (.int dg), some (.int 1), some (.int v0), some (.int (nI k))] [] (0, 0, g) := by
    intro d
    induction d with
    | zero =>
      intro k v0 dg hkd hX
      refine v_iload X (dk D_Rf_number 49 rfl) rfl ?_
      refine v_iload_n X (dk D_Rf_number 50 rfl) rfl ?_
      refine v_icmp_ge (tgt := 147) X (dk D_Rf_number 51 rfl) (by decide) (fun _ => ?_) (fun c93 => absurd (nI_le (by omega) (by omega)) c93)
      exact fin01 _ _ k (by rw [hX, List.drop_eq_nil_of_le (by omega)]; rfl)
    | succ d ih =>
      intro k v0 dg hkd hX
      have hkl : k < (f.2.1.getD i []).length := by omega
      by_cases hd : isDig (((f.2.1.getD i []).getD k 0) &&& 255) = true
      · refine v_iload X (dk D_Rf_number 49 rfl) rfl ?_
        refine v_iload_n X (dk D_Rf_number 50 rfl) rfl ?_
        refine v_icmp_ge (tgt := 147) X (dk D_Rf_number 51 rfl) (by decide) (fun c93 => absurd c93 (nI_ge (by omega) (by omega))) (fun _ => ?_)
        refine v_iload X (dk D_Rf_number 52 rfl) rfl ?_
        refine v_if_eq (tgt := 147) X (dk D_Rf_number 53 rfl) (by decide) (fun c98 => absurd c98 (by decide)) (fun _ => ?_)
        refine v_aload_n X (dk D_Rf_number 54 rfl) rfl ?_
        refine v_getF X (dk D_Rf_number 55 rfl) F_Rf_56 rfl rfl (hS.lt (by decide)) (hS.2 1003 35) ?_
        refine v_iload X (dk D_Rf_number 56 rfl) rfl ?_
        refine v_iload X (dk D_Rf_number 57 rfl) rfl ?_
        refine v_iadd X (dk D_Rf_number 58 rfl) ?_
        rw [nI_add]
        refine v_bald X (dk D_Rf_number 59 rfl) rfl (hS.lt (by decide)) (vp_in_nI (show stA f r i + k < 16385 by omega) (by decide)) ?_
        rw [nI_clamp (by omega), hrow k (by omega)]
        refine v_sipush (v := 255) X (dk D_Rf_number 60 rfl) (by decide) ?_
        refine v_iand X (dk D_Rf_number 61 rfl) ?_
        refine v_invS (As := [.int (((f.2.1.getD i []).getD k 0) &&& 255)]) (st := []) X (r_isDigit l q (b := (((f.2.1.getD i []).getD k 0) &&& 255)) (g := g)) (dk D_Rf_number 62 rfl) G_Rf_136 K_Rf_isDigit S_Rf_isDigit rfl rfl (Nat.le_of_ble_eq_true rfl) (Nat.le_of_ble_eq_true rfl) (Nat.le_of_ble_eq_true rfl) (Nat.le_of_ble_eq_true rfl) (Nat.le_of_ble_eq_true rfl) ?_
        rintro v ws ⟨rfl, hws⟩
        rw [hws]
        rw [if_pos hd]
        show Vv _ _ _ _ _ _ _ _ _ _ _ _ _ _ _ [.int 1] (0, 0, g)
        refine v_istore (lb := [some (.ref 1003), some (.int (nI (na r))), some (.int (nI (i + 1))), some (.int (nI (f.2.1.getD i []).length)), some (.int (nI (stA f r i))), some (.int 0), some (.int dg), some (.int 1), some (.int v0), some (.int (nI k))]) X (dk D_Rf_number 63 rfl) (by decide) rfl ?_
        refine v_bipush (v := 10) X (dk D_Rf_number 64 rfl) (by decide) ?_
        refine v_iload X (dk D_Rf_number 65 rfl) rfl ?_
        refine v_imul X (dk D_Rf_number 66 rfl) ?_
        refine v_aload_n X (dk D_Rf_number 67 rfl) rfl ?_
        refine v_getF X (dk D_Rf_number 68 rfl) F_Rf_56 rfl rfl (hS.lt (by decide)) (hS.2 1003 35) ?_
        refine v_iload X (dk D_Rf_number 69 rfl) rfl ?_
        refine v_iload X (dk D_Rf_number 70 rfl) rfl ?_
        refine v_iadd X (dk D_Rf_number 71 rfl) ?_
        rw [nI_add]
        refine v_bald X (dk D_Rf_number 72 rfl) rfl (hS.lt (by decide)) (vp_in_nI (show stA f r i + k < 16385 by omega) (by decide)) ?_
        rw [nI_clamp (by omega), hrow k (by omega)]
        refine v_iadd X (dk D_Rf_number 73 rfl) ?_
        refine v_bipush (v := 48) X (dk D_Rf_number 74 rfl) (by decide) ?_
        refine v_isub X (dk D_Rf_number 75 rfl) ?_
        refine v_istore (lb := [some (.ref 1003), some (.int (nI (na r))), some (.int (nI (i + 1))), some (.int (nI (f.2.1.getD i []).length)), some (.int (nI (stA f r i))), some (.int 0), some (.int dg), some (.int 1), some (.int (10 * v0 + ((f.2.1.getD i []).getD k 0) - 48)), some (.int (nI k))]) X (dk D_Rf_number 76 rfl) (by decide) rfl ?_
        refine v_iinc (v := nI (k + 1)) (lb := [some (.ref 1003), some (.int (nI (na r))), some (.int (nI (i + 1))), some (.int (nI (f.2.1.getD i []).length)), some (.int (nI (stA f r i))), some (.int 0), some (.int dg), some (.int 1), some (.int (10 * v0 + ((f.2.1.getD i []).getD k 0) - 48)), some (.int (nI (k + 1)))]) X (dk D_Rf_number 77 rfl) rfl (nI_1 _) (by decide) rfl ?_
        refine v_goto (tgt := 90) X (dk D_Rf_number 78 rfl) (by decide) ?_
        exact ih (k + 1) (10 * v0 + ((f.2.1.getD i []).getD k 0) - 48) dg (by omega) (by rw [hX, drop_getD hkl, nmD_step (hbt _ (getD_mem hkl)) hd])
      · refine v_iload X (dk D_Rf_number 49 rfl) rfl ?_
        refine v_iload_n X (dk D_Rf_number 50 rfl) rfl ?_
        refine v_icmp_ge (tgt := 147) X (dk D_Rf_number 51 rfl) (by decide) (fun c93 => absurd c93 (nI_ge (by omega) (by omega))) (fun _ => ?_)
        refine v_iload X (dk D_Rf_number 52 rfl) rfl ?_
        refine v_if_eq (tgt := 147) X (dk D_Rf_number 53 rfl) (by decide) (fun c98 => absurd c98 (by decide)) (fun _ => ?_)
        refine v_aload_n X (dk D_Rf_number 54 rfl) rfl ?_
        refine v_getF X (dk D_Rf_number 55 rfl) F_Rf_56 rfl rfl (hS.lt (by decide)) (hS.2 1003 35) ?_
        refine v_iload X (dk D_Rf_number 56 rfl) rfl ?_
        refine v_iload X (dk D_Rf_number 57 rfl) rfl ?_
        refine v_iadd X (dk D_Rf_number 58 rfl) ?_
        rw [nI_add]
        refine v_bald X (dk D_Rf_number 59 rfl) rfl (hS.lt (by decide)) (vp_in_nI (show stA f r i + k < 16385 by omega) (by decide)) ?_
        rw [nI_clamp (by omega), hrow k (by omega)]
        refine v_sipush (v := 255) X (dk D_Rf_number 60 rfl) (by decide) ?_
        refine v_iand X (dk D_Rf_number 61 rfl) ?_
        refine v_invS (As := [.int (((f.2.1.getD i []).getD k 0) &&& 255)]) (st := []) X (r_isDigit l q (b := (((f.2.1.getD i []).getD k 0) &&& 255)) (g := g)) (dk D_Rf_number 62 rfl) G_Rf_136 K_Rf_isDigit S_Rf_isDigit rfl rfl (Nat.le_of_ble_eq_true rfl) (Nat.le_of_ble_eq_true rfl) (Nat.le_of_ble_eq_true rfl) (Nat.le_of_ble_eq_true rfl) (Nat.le_of_ble_eq_true rfl) ?_
        rintro v ws ⟨rfl, hws⟩
        rw [hws]
        rw [if_neg hd]
        show Vv _ _ _ _ _ _ _ _ _ _ _ _ _ _ _ [.int 0] (0, 0, g)
        refine v_istore (lb := [some (.ref 1003), some (.int (nI (na r))), some (.int (nI (i + 1))), some (.int (nI (f.2.1.getD i []).length)), some (.int (nI (stA f r i))), some (.int 0), some (.int dg), some (.int 0), some (.int v0), some (.int (nI k))]) X (dk D_Rf_number 63 rfl) (by decide) rfl ?_
        refine v_bipush (v := 10) X (dk D_Rf_number 64 rfl) (by decide) ?_
        refine v_iload X (dk D_Rf_number 65 rfl) rfl ?_
        refine v_imul X (dk D_Rf_number 66 rfl) ?_
        refine v_aload_n X (dk D_Rf_number 67 rfl) rfl ?_
        refine v_getF X (dk D_Rf_number 68 rfl) F_Rf_56 rfl rfl (hS.lt (by decide)) (hS.2 1003 35) ?_
        refine v_iload X (dk D_Rf_number 69 rfl) rfl ?_
        refine v_iload X (dk D_Rf_number 70 rfl) rfl ?_
        refine v_iadd X (dk D_Rf_number 71 rfl) ?_
        rw [nI_add]
        refine v_bald X (dk D_Rf_number 72 rfl) rfl (hS.lt (by decide)) (vp_in_nI (show stA f r i + k < 16385 by omega) (by decide)) ?_
        rw [nI_clamp (by omega), hrow k (by omega)]
        refine v_iadd X (dk D_Rf_number 73 rfl) ?_
        refine v_bipush (v := 48) X (dk D_Rf_number 74 rfl) (by decide) ?_
        refine v_isub X (dk D_Rf_number 75 rfl) ?_
        refine v_istore (lb := [some (.ref 1003), some (.int (nI (na r))), some (.int (nI (i + 1))), some (.int (nI (f.2.1.getD i []).length)), some (.int (nI (stA f r i))), some (.int 0), some (.int dg), some (.int 0), some (.int (10 * v0 + ((f.2.1.getD i []).getD k 0) - 48)), some (.int (nI k))]) X (dk D_Rf_number 76 rfl) (by decide) rfl ?_
        refine v_iinc (v := nI (k + 1)) (lb := [some (.ref 1003), some (.int (nI (na r))), some (.int (nI (i + 1))), some (.int (nI (f.2.1.getD i []).length)), some (.int (nI (stA f r i))), some (.int 0), some (.int dg), some (.int 0), some (.int (10 * v0 + ((f.2.1.getD i []).getD k 0) - 48)), some (.int (nI (k + 1)))]) X (dk D_Rf_number 77 rfl) rfl (nI_1 _) (by decide) rfl ?_
        refine v_goto (tgt := 90) X (dk D_Rf_number 78 rfl) (by decide) ?_
        exact bad0 (by rw [hX, drop_getD hkl, nmD_no hd]) (k + 1) _ dg (by omega)
  have fin11 : ∀ (v0 dg : Int32) (k : Nat), nmX (f.2.1.getD i []) = some (-v0) → Vv pp l ee (rmT 2 0 0) ss mm aa bb mt cd 10 q (MQ bb (Qw q (fun v w => ∃ x, v = some (.int x) ∧ (∀ y, nmX (f.2.1.getD i []) = some y → x = y ∧ w.2.2 = g) ∧ (nmX (f.2.1.getD i []) = none → w.2.2 = (if gI g 1003 2 = 0 then xI (xI g 1003 2 36) 1003 3 (gI g 1003 10) else g)))) aa ss 0 0 (fun a => q.1 ≤ a)) 147 [some (.ref 1003), some (.int (nI (na r))), some (.int (nI (i + 1))), some (.int (nI (f.2.1.getD i []).length)), some (.int (nI (stA f r i))), some (.int 1), some (.int dg), some (.int 1), some (.int v0), some (.int (nI k))] [] (0, 0, g) := by
    intro v0 dg k hX
    refine v_iload X (dk D_Rf_number 79 rfl) rfl ?_
    refine v_if_ne (tgt := 158) X (dk D_Rf_number 80 rfl) (by decide) (fun _ => ?_) (fun c149 => absurd c149 (by decide))
    refine v_iload X (dk D_Rf_number 84 rfl) rfl ?_
    refine v_if_eq (tgt := 169) X (dk D_Rf_number 85 rfl) (by decide) (fun c160 => absurd c160 (by decide)) (fun _ => ?_)
    refine v_iload X (dk D_Rf_number 86 rfl) rfl ?_
    refine v_ineg X (dk D_Rf_number 87 rfl) ?_
    refine v_goto (tgt := 171) X (dk D_Rf_number 88 rfl) (by decide) ?_
    exact v_iret X hlk hrt (dk D_Rf_number 90 rfl) ⟨_, rfl, fun y hy => ⟨by rw [hX] at hy; exact Option.some.inj hy, rfl⟩, fun hn => by rw [hX] at hn; cases hn⟩
  have fin10 : ∀ (v0 dg : Int32) (k : Nat), nmX (f.2.1.getD i []) = none → Vv pp l ee (rmT 2 0 0) ss mm aa bb mt cd 10 q (MQ bb (Qw q (fun v w => ∃ x, v = some (.int x) ∧ (∀ y, nmX (f.2.1.getD i []) = some y → x = y ∧ w.2.2 = g) ∧ (nmX (f.2.1.getD i []) = none → w.2.2 = (if gI g 1003 2 = 0 then xI (xI g 1003 2 36) 1003 3 (gI g 1003 10) else g)))) aa ss 0 0 (fun a => q.1 ≤ a)) 147 [some (.ref 1003), some (.int (nI (na r))), some (.int (nI (i + 1))), some (.int (nI (f.2.1.getD i []).length)), some (.int (nI (stA f r i))), some (.int 1), some (.int dg), some (.int 0), some (.int v0), some (.int (nI k))] [] (0, 0, g) := by
    intro v0 dg k hX
    refine v_iload X (dk D_Rf_number 79 rfl) rfl ?_
    refine v_if_ne (tgt := 158) X (dk D_Rf_number 80 rfl) (by decide) (fun c149 => absurd rfl c149) (fun _ => ?_)
    refine v_aload_n X (dk D_Rf_number 81 rfl) rfl ?_
    refine v_bipush (v := 36) X (dk D_Rf_number 82 rfl) (by decide) ?_
    refine v_invV (As := [.int 36]) (st := []) X (r_fail1 l q (n := 36) hS) (dk D_Rf_number 83 rfl) G_Rf_84 K_Rf_fail1 V_Rf_fail1 rfl rfl (hS.lt (by decide)) rfl rfl (Nat.le_of_ble_eq_true rfl) (Nat.le_of_ble_eq_true rfl) (Nat.le_of_ble_eq_true rfl) (Nat.le_of_ble_eq_true rfl) (Nat.le_of_ble_eq_true rfl) ?_
    rintro v w1 ⟨rfl, hw⟩
    rw [hw]
    show Vv _ _ _ _ _ _ _ _ _ _ _ _ _ _ _ [] (0, 0, (if gI g 1003 2 = 0 then xI (xI g 1003 2 36) 1003 3 (gI g 1003 10) else g))
    refine v_iload X (dk D_Rf_number 84 rfl) rfl ?_
    refine v_if_eq (tgt := 169) X (dk D_Rf_number 85 rfl) (by decide) (fun c160 => absurd c160 (by decide)) (fun _ => ?_)
    refine v_iload X (dk D_Rf_number 86 rfl) rfl ?_
    refine v_ineg X (dk D_Rf_number 87 rfl) ?_
    refine v_goto (tgt := 171) X (dk D_Rf_number 88 rfl) (by decide) ?_
    exact v_iret X hlk hrt (dk D_Rf_number 90 rfl) ⟨_, rfl, fun y hy => (by rw [hX] at hy; cases hy), fun _ => rfl⟩
  have bad1 : nmX (f.2.1.getD i []) = none → ∀ (k : Nat) (v0 dg : Int32), k ≤ (f.2.1.getD i []).length + 1 → Vv pp l ee (rmT 2 0 0) ss mm aa bb mt cd 10 q (MQ bb (Qw q (fun v w => ∃ x, v = some (.int x) ∧ (∀ y, nmX (f.2.1.getD i []) = some y → x = y ∧ w.2.2 = g) ∧ (nmX (f.2.1.getD i []) = none → w.2.2 = (if gI g 1003 2 = 0 then xI (xI g 1003 2 36) 1003 3 (gI g 1003 10) else g)))) aa ss 0 0 (fun a => q.1 ≤ a)) 90 [some (.ref 1003), some (.int (nI (na r))), some (.int (nI (i + 1))), some (.int (nI (f.2.1.getD i []).length)), some (.int (nI (stA f r i))), some (.int 1), some (.int dg), some (.int 0), some (.int v0), some (.int (nI k))] [] (0, 0, g) := by
    intro hno k v0 dg hk
    by_cases c : (f.2.1.getD i []).length ≤ k
    · refine v_iload X (dk D_Rf_number 49 rfl) rfl ?_
      refine v_iload_n X (dk D_Rf_number 50 rfl) rfl ?_
      refine v_icmp_ge (tgt := 147) X (dk D_Rf_number 51 rfl) (by decide) (fun _ => ?_) (fun c93 => absurd (nI_le (by omega) (by omega)) c93)
      exact fin10 _ _ k hno
    · refine v_iload X (dk D_Rf_number 49 rfl) rfl ?_
      refine v_iload_n X (dk D_Rf_number 50 rfl) rfl ?_
      refine v_icmp_ge (tgt := 147) X (dk D_Rf_number 51 rfl) (by decide) (fun c93 => absurd c93 (nI_ge (by omega) (by omega))) (fun _ => ?_)
      refine v_iload X (dk D_Rf_number 52 rfl) rfl ?_
      refine v_if_eq (tgt := 147) X (dk D_Rf_number 53 rfl) (by decide) (fun _ => ?_) (fun c98 => absurd rfl c98)
      exact fin10 _ _ k hno
  have loop1 : ∀ (d k : Nat) (v0 dg : Int32), k + d = (f.2.1.getD i []).length → nmX (f.2.1.getD i []) = (nmD ((f.2.1.getD i []).drop k) v0).map (fun v => -v) → Vv pp l ee (rmT 2 0 0) ss mm aa bb mt cd 10 q (MQ bb (Qw q (fun v w => ∃ x, v = some (.int x) ∧ (∀ y, nmX (f.2.1.getD i []) = some y → x = y ∧ w.2.2 = g) ∧ (nmX (f.2.1.getD i []) = none → w.2.2 = (if gI g 1003 2 = 0 then xI (xI g 1003 2 36) 1003 3 (gI g 1003 10) else g)))) aa ss 0 0 (fun a => q.1 ≤ a)) 90 [some (.ref 1003), some (.int (nI (na r))), some (.int (nI (i + 1))), some (.int (nI (f.2.1.getD i []).length)), some (.int (nI (stA f r i))), some (.int 1), some (.int dg), some (.int 1), some (.int v0), some (.int (nI k))] [] (0, 0, g) := by
    intro d
    induction d with
    | zero =>
      intro k v0 dg hkd hX
      refine v_iload X (dk D_Rf_number 49 rfl) rfl ?_
      refine v_iload_n X (dk D_Rf_number 50 rfl) rfl ?_
      refine v_icmp_ge (tgt := 147) X (dk D_Rf_number 51 rfl) (by decide) (fun _ => ?_) (fun c93 => absurd (nI_le (by omega) (by omega)) c93)
      exact fin11 _ _ k (by rw [hX, List.drop_eq_nil_of_le (by omega)]; rfl)
    | succ d ih =>
      intro k v0 dg hkd hX
      have hkl : k < (f.2.1.getD i []).length := by omega
      by_cases hd : isDig (((f.2.1.getD i []).getD k 0) &&& 255) = true
      · refine v_iload X (dk D_Rf_number 49 rfl) rfl ?_
        refine v_iload_n X (dk D_Rf_number 50 rfl) rfl ?_
        refine v_icmp_ge (tgt := 147) X (dk D_Rf_number 51 rfl) (by decide) (fun c93 => absurd c93 (nI_ge (by omega) (by omega))) (fun _ => ?_)
        refine v_iload X (dk D_Rf_number 52 rfl) rfl ?_
        refine v_if_eq (tgt := 147) X (dk D_Rf_number 53 rfl) (by decide) (fun c98 => absurd c98 (by decide)) (fun _ => ?_)
        refine v_aload_n X (dk D_Rf_number 54 rfl) rfl ?_
        refine v_getF X (dk D_Rf_number 55 rfl) F_Rf_56 rfl rfl (hS.lt (by decide)) (hS.2 1003 35) ?_
        refine v_iload X (dk D_Rf_number 56 rfl) rfl ?_
        refine v_iload X (dk D_Rf_number 57 rfl) rfl ?_
        refine v_iadd X (dk D_Rf_number 58 rfl) ?_
        rw [nI_add]
        refine v_bald X (dk D_Rf_number 59 rfl) rfl (hS.lt (by decide)) (vp_in_nI (show stA f r i + k < 16385 by omega) (by decide)) ?_
        rw [nI_clamp (by omega), hrow k (by omega)]
        refine v_sipush (v := 255) X (dk D_Rf_number 60 rfl) (by decide) ?_
        refine v_iand X (dk D_Rf_number 61 rfl) ?_
        refine v_invS (As := [.int (((f.2.1.getD i []).getD k 0) &&& 255)]) (st := []) X (r_isDigit l q (b := (((f.2.1.getD i []).getD k 0) &&& 255)) (g := g)) (dk D_Rf_number 62 rfl) G_Rf_136 K_Rf_isDigit S_Rf_isDigit rfl rfl (Nat.le_of_ble_eq_true rfl) (Nat.le_of_ble_eq_true rfl) (Nat.le_of_ble_eq_true rfl) (Nat.le_of_ble_eq_true rfl) (Nat.le_of_ble_eq_true rfl) ?_
        rintro v ws ⟨rfl, hws⟩
        rw [hws]
        rw [if_pos hd]
        show Vv _ _ _ _ _ _ _ _ _ _ _ _ _ _ _ [.int 1] (0, 0, g)
        refine v_istore (lb := [some (.ref 1003), some (.int (nI (na r))), some (.int (nI (i + 1))), some (.int (nI (f.2.1.getD i []).length)), some (.int (nI (stA f r i))), some (.int 1), some (.int dg), some (.int 1), some (.int v0), some (.int (nI k))]) X (dk D_Rf_number 63 rfl) (by decide) rfl ?_
        refine v_bipush (v := 10) X (dk D_Rf_number 64 rfl) (by decide) ?_
        refine v_iload X (dk D_Rf_number 65 rfl) rfl ?_
        refine v_imul X (dk D_Rf_number 66 rfl) ?_
        refine v_aload_n X (dk D_Rf_number 67 rfl) rfl ?_
        refine v_getF X (dk D_Rf_number 68 rfl) F_Rf_56 rfl rfl (hS.lt (by decide)) (hS.2 1003 35) ?_
        refine v_iload X (dk D_Rf_number 69 rfl) rfl ?_
        refine v_iload X (dk D_Rf_number 70 rfl) rfl ?_
        refine v_iadd X (dk D_Rf_number 71 rfl) ?_
        rw [nI_add]
        refine v_bald X (dk D_Rf_number 72 rfl) rfl (hS.lt (by decide)) (vp_in_nI (show stA f r i + k < 16385 by omega) (by decide)) ?_
        rw [nI_clamp (by omega), hrow k (by omega)]
        refine v_iadd X (dk D_Rf_number 73 rfl) ?_
        refine v_bipush (v := 48) X (dk D_Rf_number 74 rfl) (by decide) ?_
        refine v_isub X (dk D_Rf_number 75 rfl) ?_
        refine v_istore (lb := [some (.ref 1003), some (.int (nI (na r))), some (.int (nI (i + 1))), some (.int (nI (f.2.1.getD i []).length)), some (.int (nI (stA f r i))), some (.int 1), some (.int dg), some (.int 1), some (.int (10 * v0 + ((f.2.1.getD i []).getD k 0) - 48)), some (.int (nI k))]) X (dk D_Rf_number 76 rfl) (by decide) rfl ?_
        refine v_iinc (v := nI (k + 1)) (lb := [some (.ref 1003), some (.int (nI (na r))), some (.int (nI (i + 1))), some (.int (nI (f.2.1.getD i []).length)), some (.int (nI (stA f r i))), some (.int 1), some (.int dg), some (.int 1), some (.int (10 * v0 + ((f.2.1.getD i []).getD k 0) - 48)), some (.int (nI (k + 1)))]) X (dk D_Rf_number 77 rfl) rfl (nI_1 _) (by decide) rfl ?_
        refine v_goto (tgt := 90) X (dk D_Rf_number 78 rfl) (by decide) ?_
        exact ih (k + 1) (10 * v0 + ((f.2.1.getD i []).getD k 0) - 48) dg (by omega) (by rw [hX, drop_getD hkl, nmD_step (hbt _ (getD_mem hkl)) hd])
      · refine v_iload X (dk D_Rf_number 49 rfl) rfl ?_
        refine v_iload_n X (dk D_Rf_number 50 rfl) rfl ?_
        refine v_icmp_ge (tgt := 147) X (dk D_Rf_number 51 rfl) (by decide) (fun c93 => absurd c93 (nI_ge (by omega) (by omega))) (fun _ => ?_)
        refine v_iload X (dk D_Rf_number 52 rfl) rfl ?_
        refine v_if_eq (tgt := 147) X (dk D_Rf_number 53 rfl) (by decide) (fun c98 => absurd c98 (by decide)) (fun _ => ?_)
        refine v_aload_n X (dk D_Rf_number 54 rfl) rfl ?_
        refine v_getF X (dk D_Rf_number 55 rfl) F_Rf_56 rfl rfl (hS.lt (by decide)) (hS.2 1003 35) ?_
        refine v_iload X (dk D_Rf_number 56 rfl) rfl ?_
        refine v_iload X (dk D_Rf_number 57 rfl) rfl ?_
        refine v_iadd X (dk D_Rf_number 58 rfl) ?_
        rw [nI_add]
        refine v_bald X (dk D_Rf_number 59 rfl) rfl (hS.lt (by decide)) (vp_in_nI (show stA f r i + k < 16385 by omega) (by decide)) ?_
        rw [nI_clamp (by omega), hrow k (by omega)]
        refine v_sipush (v := 255) X (dk D_Rf_number 60 rfl) (by decide) ?_
        refine v_iand X (dk D_Rf_number 61 rfl) ?_
        refine v_invS (As := [.int (((f.2.1.getD i []).getD k 0) &&& 255)]) (st := []) X (r_isDigit l q (b := (((f.2.1.getD i []).getD k 0) &&& 255)) (g := g)) (dk D_Rf_number 62 rfl) G_Rf_136 K_Rf_isDigit S_Rf_isDigit rfl rfl (Nat.le_of_ble_eq_true rfl) (Nat.le_of_ble_eq_true rfl) (Nat.le_of_ble_eq_true rfl) (Nat.le_of_ble_eq_true rfl) (Nat.le_of_ble_eq_true rfl) ?_
        rintro v ws ⟨rfl, hws⟩
        rw [hws]
        rw [if_neg hd]
        show Vv _ _ _ _ _ _ _ _ _ _ _ _ _ _ _ [.int 0] (0, 0, g)
        refine v_istore (lb := [some (.ref 1003), some (.int (nI (na r))), some (.int (nI (i + 1))), some (.int (nI (f.2.1.getD i []).length)), some (.int (nI (stA f r i))), some (.int 1), some (.int dg), some (.int 0), some (.int v0), some (.int (nI k))]) X (dk D_Rf_number 63 rfl) (by decide) rfl ?_
        refine v_bipush (v := 10) X (dk D_Rf_number 64 rfl) (by decide) ?_
        refine v_iload X (dk D_Rf_number 65 rfl) rfl ?_
        refine v_imul X (dk D_Rf_number 66 rfl) ?_
        refine v_aload_n X (dk D_Rf_number 67 rfl) rfl ?_
        refine v_getF X (dk D_Rf_number 68 rfl) F_Rf_56 rfl rfl (hS.lt (by decide)) (hS.2 1003 35) ?_
        refine v_iload X (dk D_Rf_number 69 rfl) rfl ?_
        refine v_iload X (dk D_Rf_number 70 rfl) rfl ?_
        refine v_iadd X (dk D_Rf_number 71 rfl) ?_
        rw [nI_add]
        refine v_bald X (dk D_Rf_number 72 rfl) rfl (hS.lt (by decide)) (vp_in_nI (show stA f r i + k < 16385 by omega) (by decide)) ?_
        rw [nI_clamp (by omega), hrow k (by omega)]
        refine v_iadd X (dk D_Rf_number 73 rfl) ?_
        refine v_bipush (v := 48) X (dk D_Rf_number 74 rfl) (by decide) ?_
        refine v_isub X (dk D_Rf_number 75 rfl) ?_
        refine v_istore (lb := [some (.ref 1003), some (.int (nI (na r))), some (.int (nI (i + 1))), some (.int (nI (f.2.1.getD i []).length)), some (.int (nI (stA f r i))), some (.int 1), some (.int dg), some (.int 0), some (.int (10 * v0 + ((f.2.1.getD i []).getD k 0) - 48)), some (.int (nI k))]) X (dk D_Rf_number 76 rfl) (by decide) rfl ?_
        refine v_iinc (v := nI (k + 1)) (lb := [some (.ref 1003), some (.int (nI (na r))), some (.int (nI (i + 1))), some (.int (nI (f.2.1.getD i []).length)), some (.int (nI (stA f r i))), some (.int 1), some (.int dg), some (.int 0), some (.int (10 * v0 + ((f.2.1.getD i []).getD k 0) - 48)), some (.int (nI (k + 1)))]) X (dk D_Rf_number 77 rfl) rfl (nI_1 _) (by decide) rfl ?_
        refine v_goto (tgt := 90) X (dk D_Rf_number 78 rfl) (by decide) ?_
        exact bad1 (by rw [hX, drop_getD hkl, nmD_no hd]; rfl) (k + 1) _ dg (by omega)
  by_cases c0 : (f.2.1.getD i []).length = 0
  · have hA0 : (f.2.1.getD i []) = [] := List.eq_nil_of_length_eq_zero c0
    have hX0 : nmX (f.2.1.getD i []) = some 0 := by rw [nmX, if_pos hA0]
    refine v_aload_n X (dk D_Rf_number 0 rfl) rfl ?_
    refine v_iload_n X (dk D_Rf_number 1 rfl) rfl ?_
    refine v_iload_n X (dk D_Rf_number 2 rfl) rfl ?_
    refine v_invV (As := [.int (nI (na r)), .int (nI (i + 1))]) (st := []) X (r_argumentSize l q (i := i) hS hC (by omega)) (dk D_Rf_number 3 rfl) G_Rf_272 K_Rf_argumentSize V_Rf_argumentSize rfl rfl (hS.lt (by decide)) rfl rfl (Nat.le_of_ble_eq_true rfl) (Nat.le_of_ble_eq_true rfl) (Nat.le_of_ble_eq_true rfl) (Nat.le_of_ble_eq_true rfl) (Nat.le_of_ble_eq_true rfl) ?_
    rintro v ws ⟨rfl, hws⟩
    rw [hws]
    show Vv _ _ _ _ _ _ _ _ _ _ _ _ _ _ _ [.int (nI (f.2.1.getD i []).length)] (0, 0, g)
    refine v_istore_n (lb := [some (.ref 1003), some (.int (nI (na r))), some (.int (nI (i + 1))), some (.int (nI (f.2.1.getD i []).length)), none, none, none, none, none, none]) X (dk D_Rf_number 4 rfl) (by decide) rfl ?_
    refine v_aload_n X (dk D_Rf_number 5 rfl) rfl ?_
    refine v_iload_n X (dk D_Rf_number 6 rfl) rfl ?_
    refine v_iload_n X (dk D_Rf_number 7 rfl) rfl ?_
    refine v_invV (As := [.int (nI (na r)), .int (nI (i + 1))]) (st := []) X (r_argumentAt l q (i := i) hS hC (by omega)) (dk D_Rf_number 8 rfl) G_Rf_268 K_Rf_argumentAt V_Rf_argumentAt rfl rfl (hS.lt (by decide)) rfl rfl (Nat.le_of_ble_eq_true rfl) (Nat.le_of_ble_eq_true rfl) (Nat.le_of_ble_eq_true rfl) (Nat.le_of_ble_eq_true rfl) (Nat.le_of_ble_eq_true rfl) ?_
    rintro v ws ⟨rfl, hws⟩
    rw [hws]
    show Vv _ _ _ _ _ _ _ _ _ _ _ _ _ _ _ [.int (nI (stA f r i))] (0, 0, g)
    refine v_istore (lb := [some (.ref 1003), some (.int (nI (na r))), some (.int (nI (i + 1))), some (.int (nI (f.2.1.getD i []).length)), some (.int (nI (stA f r i))), none, none, none, none, none]) X (dk D_Rf_number 9 rfl) (by decide) rfl ?_
    refine v_iload_n X (dk D_Rf_number 10 rfl) rfl ?_
    refine v_if_le (tgt := 35) X (dk D_Rf_number 11 rfl) (by decide) (fun _ => ?_) (fun c16 => absurd (by rw [show (f.2.1.getD i []).length = 0 by omega]; decide) c16)
    refine v_iconst (v := 0) X (dk D_Rf_number 20 rfl) (by decide) ?_
    refine v_istore (lb := [some (.ref 1003), some (.int (nI (na r))), some (.int (nI (i + 1))), some (.int (nI (f.2.1.getD i []).length)), some (.int (nI (stA f r i))), some (.int 0), none, none, none, none]) X (dk D_Rf_number 21 rfl) (by decide) rfl ?_
    refine v_iload X (dk D_Rf_number 22 rfl) rfl ?_
    refine v_if_eq (tgt := 49) X (dk D_Rf_number 23 rfl) (by decide) (fun _ => ?_) (fun c40 => absurd rfl c40)
    refine v_iload_n X (dk D_Rf_number 28 rfl) rfl ?_
    refine v_istore (lb := [some (.ref 1003), some (.int (nI (na r))), some (.int (nI (i + 1))), some (.int (nI (f.2.1.getD i []).length)), some (.int (nI (stA f r i))), some (.int 0), some (.int (nI (f.2.1.getD i []).length)), none, none, none]) X (dk D_Rf_number 29 rfl) (by decide) rfl ?_
    refine v_iload_n X (dk D_Rf_number 30 rfl) rfl ?_
    refine v_if_eq (tgt := 68) X (dk D_Rf_number 31 rfl) (by decide) (fun _ => ?_) (fun c53 => absurd (by rw [show (f.2.1.getD i []).length = 0 by omega]; rfl) c53)
    refine v_iconst (v := 1) X (dk D_Rf_number 37 rfl) (by decide) ?_
    refine v_goto (tgt := 73) X (dk D_Rf_number 38 rfl) (by decide) ?_
    refine v_istore (lb := [some (.ref 1003), some (.int (nI (na r))), some (.int (nI (i + 1))), some (.int (nI (f.2.1.getD i []).length)), some (.int (nI (stA f r i))), some (.int 0), some (.int (nI (f.2.1.getD i []).length)), some (.int 1), none, none]) X (dk D_Rf_number 40 rfl) (by decide) rfl ?_
    refine v_iconst (v := 0) X (dk D_Rf_number 41 rfl) (by decide) ?_
    refine v_istore (lb := [some (.ref 1003), some (.int (nI (na r))), some (.int (nI (i + 1))), some (.int (nI (f.2.1.getD i []).length)), some (.int (nI (stA f r i))), some (.int 0), some (.int (nI (f.2.1.getD i []).length)), some (.int 1), some (.int 0), none]) X (dk D_Rf_number 42 rfl) (by decide) rfl ?_
    refine v_iload X (dk D_Rf_number 43 rfl) rfl ?_
    refine v_if_eq (tgt := 87) X (dk D_Rf_number 44 rfl) (by decide) (fun _ => ?_) (fun c80 => absurd rfl c80)
    refine v_iconst (v := nI 0) X (dk D_Rf_number 47 rfl) (by decide) ?_
    refine v_istore (lb := [some (.ref 1003), some (.int (nI (na r))), some (.int (nI (i + 1))), some (.int (nI (f.2.1.getD i []).length)), some (.int (nI (stA f r i))), some (.int 0), some (.int (nI (f.2.1.getD i []).length)), some (.int 1), some (.int 0), some (.int (nI 0))]) X (dk D_Rf_number 48 rfl) (by decide) rfl ?_
    exact loop0 0 0 0 _ (by omega) (by rw [hX0, hA0]; rfl)
  have hA0 : ¬ (f.2.1.getD i []) = [] := fun z => c0 (by rw [z]; rfl)
  have hb0 : isByte ((f.2.1.getD i []).getD 0 0) := hbt _ (getD_mem (by omega))
  by_cases hm : (f.2.1.getD i []).getD 0 0 = 45
  · have hX0 : nmX (f.2.1.getD i []) = if (f.2.1.getD i []).tail = [] ∨ 9 < (f.2.1.getD i []).tail.length then none else (nmD (f.2.1.getD i []).tail 0).map (fun v => -v) := by rw [nmX, if_neg hA0, if_pos (by rw [hm]; rfl)]
    have htl : (f.2.1.getD i []).tail.length = (f.2.1.getD i []).length - 1 := List.length_tail
    by_cases hT : (f.2.1.getD i []).tail = []
    · rw [hT] at htl
      rw [List.length_nil] at htl
      refine v_aload_n X (dk D_Rf_number 0 rfl) rfl ?_
      refine v_iload_n X (dk D_Rf_number 1 rfl) rfl ?_
      refine v_iload_n X (dk D_Rf_number 2 rfl) rfl ?_
      refine v_invV (As := [.int (nI (na r)), .int (nI (i + 1))]) (st := []) X (r_argumentSize l q (i := i) hS hC (by omega)) (dk D_Rf_number 3 rfl) G_Rf_272 K_Rf_argumentSize V_Rf_argumentSize rfl rfl (hS.lt (by decide)) rfl rfl (Nat.le_of_ble_eq_true rfl) (Nat.le_of_ble_eq_true rfl) (Nat.le_of_ble_eq_true rfl) (Nat.le_of_ble_eq_true rfl) (Nat.le_of_ble_eq_true rfl) ?_
      rintro v ws ⟨rfl, hws⟩
      rw [hws]
      show Vv _ _ _ _ _ _ _ _ _ _ _ _ _ _ _ [.int (nI (f.2.1.getD i []).length)] (0, 0, g)
      refine v_istore_n (lb := [some (.ref 1003), some (.int (nI (na r))), some (.int (nI (i + 1))), some (.int (nI (f.2.1.getD i []).length)), none, none, none, none, none, none]) X (dk D_Rf_number 4 rfl) (by decide) rfl ?_
      refine v_aload_n X (dk D_Rf_number 5 rfl) rfl ?_
      refine v_iload_n X (dk D_Rf_number 6 rfl) rfl ?_
      refine v_iload_n X (dk D_Rf_number 7 rfl) rfl ?_
      refine v_invV (As := [.int (nI (na r)), .int (nI (i + 1))]) (st := []) X (r_argumentAt l q (i := i) hS hC (by omega)) (dk D_Rf_number 8 rfl) G_Rf_268 K_Rf_argumentAt V_Rf_argumentAt rfl rfl (hS.lt (by decide)) rfl rfl (Nat.le_of_ble_eq_true rfl) (Nat.le_of_ble_eq_true rfl) (Nat.le_of_ble_eq_true rfl) (Nat.le_of_ble_eq_true rfl) (Nat.le_of_ble_eq_true rfl) ?_
      rintro v ws ⟨rfl, hws⟩
      rw [hws]
      show Vv _ _ _ _ _ _ _ _ _ _ _ _ _ _ _ [.int (nI (stA f r i))] (0, 0, g)
      refine v_istore (lb := [some (.ref 1003), some (.int (nI (na r))), some (.int (nI (i + 1))), some (.int (nI (f.2.1.getD i []).length)), some (.int (nI (stA f r i))), none, none, none, none, none]) X (dk D_Rf_number 9 rfl) (by decide) rfl ?_
      refine v_iload_n X (dk D_Rf_number 10 rfl) rfl ?_
      refine v_if_le (tgt := 35) X (dk D_Rf_number 11 rfl) (by decide) (fun c16 => absurd c16 (nI_nle (by omega) (by omega))) (fun _ => ?_)
      refine v_aload_n X (dk D_Rf_number 12 rfl) rfl ?_
      refine v_getF X (dk D_Rf_number 13 rfl) F_Rf_56 rfl rfl (hS.lt (by decide)) (hS.2 1003 35) ?_
      refine v_iload X (dk D_Rf_number 14 rfl) rfl ?_
      refine v_bald X (dk D_Rf_number 15 rfl) rfl (hS.lt (by decide)) (vp_in_nI (show stA f r i < 16385 by omega) (by decide)) ?_
      rw [nI_clamp (by omega), show gI g 1018 (stA f r i) = (f.2.1.getD i []).getD 0 0 from hrow 0 (by omega)]
      refine v_bipush (v := 45) X (dk D_Rf_number 16 rfl) (by decide) ?_
      refine v_icmp_ne (tgt := 35) X (dk D_Rf_number 17 rfl) (by decide) (fun c28 => absurd hm c28) (fun _ => ?_)
      refine v_iconst (v := 1) X (dk D_Rf_number 18 rfl) (by decide) ?_
      refine v_goto (tgt := 36) X (dk D_Rf_number 19 rfl) (by decide) ?_
      refine v_istore (lb := [some (.ref 1003), some (.int (nI (na r))), some (.int (nI (i + 1))), some (.int (nI (f.2.1.getD i []).length)), some (.int (nI (stA f r i))), some (.int 1), none, none, none, none]) X (dk D_Rf_number 21 rfl) (by decide) rfl ?_
      refine v_iload X (dk D_Rf_number 22 rfl) rfl ?_
      refine v_if_eq (tgt := 49) X (dk D_Rf_number 23 rfl) (by decide) (fun c40 => absurd c40 (by decide)) (fun _ => ?_)
      refine v_iload_n X (dk D_Rf_number 24 rfl) rfl ?_
      refine v_iconst (v := 1) X (dk D_Rf_number 25 rfl) (by decide) ?_
      refine v_isub X (dk D_Rf_number 26 rfl) ?_
      rw [show nI (f.2.1.getD i []).length - 1 = nI ((f.2.1.getD i []).length - 1) from pk_sub (b := 1) (by omega)]
      refine v_goto (tgt := 50) X (dk D_Rf_number 27 rfl) (by decide) ?_
      refine v_istore (lb := [some (.ref 1003), some (.int (nI (na r))), some (.int (nI (i + 1))), some (.int (nI (f.2.1.getD i []).length)), some (.int (nI (stA f r i))), some (.int 1), some (.int (nI ((f.2.1.getD i []).length - 1))), none, none, none]) X (dk D_Rf_number 29 rfl) (by decide) rfl ?_
      refine v_iload_n X (dk D_Rf_number 30 rfl) rfl ?_
      refine v_if_eq (tgt := 68) X (dk D_Rf_number 31 rfl) (by decide) (fun c53 => absurd c53 (nI_ne0 (by omega) (by omega))) (fun _ => ?_)
      refine v_iload X (dk D_Rf_number 32 rfl) rfl ?_
      refine v_if_le (tgt := 72) X (dk D_Rf_number 33 rfl) (by decide) (fun _ => ?_) (fun c58 => absurd (by rw [show (f.2.1.getD i []).length - 1 = 0 by omega]; decide) c58)
      refine v_iconst (v := 0) X (dk D_Rf_number 39 rfl) (by decide) ?_
      refine v_istore (lb := [some (.ref 1003), some (.int (nI (na r))), some (.int (nI (i + 1))), some (.int (nI (f.2.1.getD i []).length)), some (.int (nI (stA f r i))), some (.int 1), some (.int (nI ((f.2.1.getD i []).length - 1))), some (.int 0), none, none]) X (dk D_Rf_number 40 rfl) (by decide) rfl ?_
      refine v_iconst (v := 0) X (dk D_Rf_number 41 rfl) (by decide) ?_
      refine v_istore (lb := [some (.ref 1003), some (.int (nI (na r))), some (.int (nI (i + 1))), some (.int (nI (f.2.1.getD i []).length)), some (.int (nI (stA f r i))), some (.int 1), some (.int (nI ((f.2.1.getD i []).length - 1))), some (.int 0), some (.int 0), none]) X (dk D_Rf_number 42 rfl) (by decide) rfl ?_
      refine v_iload X (dk D_Rf_number 43 rfl) rfl ?_
      refine v_if_eq (tgt := 87) X (dk D_Rf_number 44 rfl) (by decide) (fun c80 => absurd c80 (by decide)) (fun _ => ?_)
      refine v_iconst (v := nI 1) X (dk D_Rf_number 45 rfl) (by decide) ?_
      refine v_goto (tgt := 88) X (dk D_Rf_number 46 rfl) (by decide) ?_
      refine v_istore (lb := [some (.ref 1003), some (.int (nI (na r))), some (.int (nI (i + 1))), some (.int (nI (f.2.1.getD i []).length)), some (.int (nI (stA f r i))), some (.int 1), some (.int (nI ((f.2.1.getD i []).length - 1))), some (.int 0), some (.int 0), some (.int (nI 1))]) X (dk D_Rf_number 48 rfl) (by decide) rfl ?_
      exact bad1 (by rw [hX0, if_pos (Or.inl hT)]) 1 0 _ (by omega)
    have hT0 : 0 < (f.2.1.getD i []).tail.length := List.length_pos_iff.mpr hT
    by_cases hT2 : 9 < (f.2.1.getD i []).tail.length
    · have hT := hT2
      refine v_aload_n X (dk D_Rf_number 0 rfl) rfl ?_
      refine v_iload_n X (dk D_Rf_number 1 rfl) rfl ?_
      refine v_iload_n X (dk D_Rf_number 2 rfl) rfl ?_
      refine v_invV (As := [.int (nI (na r)), .int (nI (i + 1))]) (st := []) X (r_argumentSize l q (i := i) hS hC (by omega)) (dk D_Rf_number 3 rfl) G_Rf_272 K_Rf_argumentSize V_Rf_argumentSize rfl rfl (hS.lt (by decide)) rfl rfl (Nat.le_of_ble_eq_true rfl) (Nat.le_of_ble_eq_true rfl) (Nat.le_of_ble_eq_true rfl) (Nat.le_of_ble_eq_true rfl) (Nat.le_of_ble_eq_true rfl) ?_
      rintro v ws ⟨rfl, hws⟩
      rw [hws]
      show Vv _ _ _ _ _ _ _ _ _ _ _ _ _ _ _ [.int (nI (f.2.1.getD i []).length)] (0, 0, g)
      refine v_istore_n (lb := [some (.ref 1003), some (.int (nI (na r))), some (.int (nI (i + 1))), some (.int (nI (f.2.1.getD i []).length)), none, none, none, none, none, none]) X (dk D_Rf_number 4 rfl) (by decide) rfl ?_
      refine v_aload_n X (dk D_Rf_number 5 rfl) rfl ?_
      refine v_iload_n X (dk D_Rf_number 6 rfl) rfl ?_
      refine v_iload_n X (dk D_Rf_number 7 rfl) rfl ?_
      refine v_invV (As := [.int (nI (na r)), .int (nI (i + 1))]) (st := []) X (r_argumentAt l q (i := i) hS hC (by omega)) (dk D_Rf_number 8 rfl) G_Rf_268 K_Rf_argumentAt V_Rf_argumentAt rfl rfl (hS.lt (by decide)) rfl rfl (Nat.le_of_ble_eq_true rfl) (Nat.le_of_ble_eq_true rfl) (Nat.le_of_ble_eq_true rfl) (Nat.le_of_ble_eq_true rfl) (Nat.le_of_ble_eq_true rfl) ?_
      rintro v ws ⟨rfl, hws⟩
      rw [hws]
      show Vv _ _ _ _ _ _ _ _ _ _ _ _ _ _ _ [.int (nI (stA f r i))] (0, 0, g)
      refine v_istore (lb := [some (.ref 1003), some (.int (nI (na r))), some (.int (nI (i + 1))), some (.int (nI (f.2.1.getD i []).length)), some (.int (nI (stA f r i))), none, none, none, none, none]) X (dk D_Rf_number 9 rfl) (by decide) rfl ?_
      refine v_iload_n X (dk D_Rf_number 10 rfl) rfl ?_
      refine v_if_le (tgt := 35) X (dk D_Rf_number 11 rfl) (by decide) (fun c16 => absurd c16 (nI_nle (by omega) (by omega))) (fun _ => ?_)
      refine v_aload_n X (dk D_Rf_number 12 rfl) rfl ?_
      refine v_getF X (dk D_Rf_number 13 rfl) F_Rf_56 rfl rfl (hS.lt (by decide)) (hS.2 1003 35) ?_
      refine v_iload X (dk D_Rf_number 14 rfl) rfl ?_
      refine v_bald X (dk D_Rf_number 15 rfl) rfl (hS.lt (by decide)) (vp_in_nI (show stA f r i < 16385 by omega) (by decide)) ?_
      rw [nI_clamp (by omega), show gI g 1018 (stA f r i) = (f.2.1.getD i []).getD 0 0 from hrow 0 (by omega)]
      refine v_bipush (v := 45) X (dk D_Rf_number 16 rfl) (by decide) ?_
      refine v_icmp_ne (tgt := 35) X (dk D_Rf_number 17 rfl) (by decide) (fun c28 => absurd hm c28) (fun _ => ?_)
      refine v_iconst (v := 1) X (dk D_Rf_number 18 rfl) (by decide) ?_
      refine v_goto (tgt := 36) X (dk D_Rf_number 19 rfl) (by decide) ?_
      refine v_istore (lb := [some (.ref 1003), some (.int (nI (na r))), some (.int (nI (i + 1))), some (.int (nI (f.2.1.getD i []).length)), some (.int (nI (stA f r i))), some (.int 1), none, none, none, none]) X (dk D_Rf_number 21 rfl) (by decide) rfl ?_
      refine v_iload X (dk D_Rf_number 22 rfl) rfl ?_
      refine v_if_eq (tgt := 49) X (dk D_Rf_number 23 rfl) (by decide) (fun c40 => absurd c40 (by decide)) (fun _ => ?_)
      refine v_iload_n X (dk D_Rf_number 24 rfl) rfl ?_
      refine v_iconst (v := 1) X (dk D_Rf_number 25 rfl) (by decide) ?_
      refine v_isub X (dk D_Rf_number 26 rfl) ?_
      rw [show nI (f.2.1.getD i []).length - 1 = nI ((f.2.1.getD i []).length - 1) from pk_sub (b := 1) (by omega)]
      refine v_goto (tgt := 50) X (dk D_Rf_number 27 rfl) (by decide) ?_
      refine v_istore (lb := [some (.ref 1003), some (.int (nI (na r))), some (.int (nI (i + 1))), some (.int (nI (f.2.1.getD i []).length)), some (.int (nI (stA f r i))), some (.int 1), some (.int (nI ((f.2.1.getD i []).length - 1))), none, none, none]) X (dk D_Rf_number 29 rfl) (by decide) rfl ?_
      refine v_iload_n X (dk D_Rf_number 30 rfl) rfl ?_
      refine v_if_eq (tgt := 68) X (dk D_Rf_number 31 rfl) (by decide) (fun c53 => absurd c53 (nI_ne0 (by omega) (by omega))) (fun _ => ?_)
      refine v_iload X (dk D_Rf_number 32 rfl) rfl ?_
      refine v_if_le (tgt := 72) X (dk D_Rf_number 33 rfl) (by decide) (fun c58 => absurd c58 (nI_nle (by omega) (by omega))) (fun _ => ?_)
      refine v_iload X (dk D_Rf_number 34 rfl) rfl ?_
      refine v_bipush (v := 10) X (dk D_Rf_number 35 rfl) (by decide) ?_
      refine v_icmp_ge (tgt := 72) X (dk D_Rf_number 36 rfl) (by decide) (fun _ => ?_) (fun c65 => absurd (nI_le (a := 10) (by omega) (by omega)) c65)
      refine v_iconst (v := 0) X (dk D_Rf_number 39 rfl) (by decide) ?_
      refine v_istore (lb := [some (.ref 1003), some (.int (nI (na r))), some (.int (nI (i + 1))), some (.int (nI (f.2.1.getD i []).length)), some (.int (nI (stA f r i))), some (.int 1), some (.int (nI ((f.2.1.getD i []).length - 1))), some (.int 0), none, none]) X (dk D_Rf_number 40 rfl) (by decide) rfl ?_
      refine v_iconst (v := 0) X (dk D_Rf_number 41 rfl) (by decide) ?_
      refine v_istore (lb := [some (.ref 1003), some (.int (nI (na r))), some (.int (nI (i + 1))), some (.int (nI (f.2.1.getD i []).length)), some (.int (nI (stA f r i))), some (.int 1), some (.int (nI ((f.2.1.getD i []).length - 1))), some (.int 0), some (.int 0), none]) X (dk D_Rf_number 42 rfl) (by decide) rfl ?_
      refine v_iload X (dk D_Rf_number 43 rfl) rfl ?_
      refine v_if_eq (tgt := 87) X (dk D_Rf_number 44 rfl) (by decide) (fun c80 => absurd c80 (by decide)) (fun _ => ?_)
      refine v_iconst (v := nI 1) X (dk D_Rf_number 45 rfl) (by decide) ?_
      refine v_goto (tgt := 88) X (dk D_Rf_number 46 rfl) (by decide) ?_
      refine v_istore (lb := [some (.ref 1003), some (.int (nI (na r))), some (.int (nI (i + 1))), some (.int (nI (f.2.1.getD i []).length)), some (.int (nI (stA f r i))), some (.int 1), some (.int (nI ((f.2.1.getD i []).length - 1))), some (.int 0), some (.int 0), some (.int (nI 1))]) X (dk D_Rf_number 48 rfl) (by decide) rfl ?_
      exact bad1 (by rw [hX0, if_pos (Or.inr hT)]) 1 0 _ (by omega)
    have hT : ¬ ((f.2.1.getD i []).tail = [] ∨ 9 < (f.2.1.getD i []).tail.length) := fun z => by rcases z with z | z; exact hT z; exact hT2 z
    refine v_aload_n X (dk D_Rf_number 0 rfl) rfl ?_
    refine v_iload_n X (dk D_Rf_number 1 rfl) rfl ?_
    refine v_iload_n X (dk D_Rf_number 2 rfl) rfl ?_
    refine v_invV (As := [.int (nI (na r)), .int (nI (i + 1))]) (st := []) X (r_argumentSize l q (i := i) hS hC (by omega)) (dk D_Rf_number 3 rfl) G_Rf_272 K_Rf_argumentSize V_Rf_argumentSize rfl rfl (hS.lt (by decide)) rfl rfl (Nat.le_of_ble_eq_true rfl) (Nat.le_of_ble_eq_true rfl) (Nat.le_of_ble_eq_true rfl) (Nat.le_of_ble_eq_true rfl) (Nat.le_of_ble_eq_true rfl) ?_
    rintro v ws ⟨rfl, hws⟩
    rw [hws]
    show Vv _ _ _ _ _ _ _ _ _ _ _ _ _ _ _ [.int (nI (f.2.1.getD i []).length)] (0, 0, g)
    refine v_istore_n (lb := [some (.ref 1003), some (.int (nI (na r))), some (.int (nI (i + 1))), some (.int (nI (f.2.1.getD i []).length)), none, none, none, none, none, none]) X (dk D_Rf_number 4 rfl) (by decide) rfl ?_
    refine v_aload_n X (dk D_Rf_number 5 rfl) rfl ?_
    refine v_iload_n X (dk D_Rf_number 6 rfl) rfl ?_
    refine v_iload_n X (dk D_Rf_number 7 rfl) rfl ?_
    refine v_invV (As := [.int (nI (na r)), .int (nI (i + 1))]) (st := []) X (r_argumentAt l q (i := i) hS hC (by omega)) (dk D_Rf_number 8 rfl) G_Rf_268 K_Rf_argumentAt V_Rf_argumentAt rfl rfl (hS.lt (by decide)) rfl rfl (Nat.le_of_ble_eq_true rfl) (Nat.le_of_ble_eq_true rfl) (Nat.le_of_ble_eq_true rfl) (Nat.le_of_ble_eq_true rfl) (Nat.le_of_ble_eq_true rfl) ?_
    rintro v ws ⟨rfl, hws⟩
    rw [hws]
    show Vv _ _ _ _ _ _ _ _ _ _ _ _ _ _ _ [.int (nI (stA f r i))] (0, 0, g)
    refine v_istore (lb := [some (.ref 1003), some (.int (nI (na r))), some (.int (nI (i + 1))), some (.int (nI (f.2.1.getD i []).length)), some (.int (nI (stA f r i))), none, none, none, none, none]) X (dk D_Rf_number 9 rfl) (by decide) rfl ?_
    refine v_iload_n X (dk D_Rf_number 10 rfl) rfl ?_
    refine v_if_le (tgt := 35) X (dk D_Rf_number 11 rfl) (by decide) (fun c16 => absurd c16 (nI_nle (by omega) (by omega))) (fun _ => ?_)
    refine v_aload_n X (dk D_Rf_number 12 rfl) rfl ?_
    refine v_getF X (dk D_Rf_number 13 rfl) F_Rf_56 rfl rfl (hS.lt (by decide)) (hS.2 1003 35) ?_
    refine v_iload X (dk D_Rf_number 14 rfl) rfl ?_
    refine v_bald X (dk D_Rf_number 15 rfl) rfl (hS.lt (by decide)) (vp_in_nI (show stA f r i < 16385 by omega) (by decide)) ?_
    rw [nI_clamp (by omega), show gI g 1018 (stA f r i) = (f.2.1.getD i []).getD 0 0 from hrow 0 (by omega)]
    refine v_bipush (v := 45) X (dk D_Rf_number 16 rfl) (by decide) ?_
    refine v_icmp_ne (tgt := 35) X (dk D_Rf_number 17 rfl) (by decide) (fun c28 => absurd hm c28) (fun _ => ?_)
    refine v_iconst (v := 1) X (dk D_Rf_number 18 rfl) (by decide) ?_
    refine v_goto (tgt := 36) X (dk D_Rf_number 19 rfl) (by decide) ?_
    refine v_istore (lb := [some (.ref 1003), some (.int (nI (na r))), some (.int (nI (i + 1))), some (.int (nI (f.2.1.getD i []).length)), some (.int (nI (stA f r i))), some (.int 1), none, none, none, none]) X (dk D_Rf_number 21 rfl) (by decide) rfl ?_
    refine v_iload X (dk D_Rf_number 22 rfl) rfl ?_
    refine v_if_eq (tgt := 49) X (dk D_Rf_number 23 rfl) (by decide) (fun c40 => absurd c40 (by decide)) (fun _ => ?_)
    refine v_iload_n X (dk D_Rf_number 24 rfl) rfl ?_
    refine v_iconst (v := 1) X (dk D_Rf_number 25 rfl) (by decide) ?_
    refine v_isub X (dk D_Rf_number 26 rfl) ?_
    rw [show nI (f.2.1.getD i []).length - 1 = nI ((f.2.1.getD i []).length - 1) from pk_sub (b := 1) (by omega)]
    refine v_goto (tgt := 50) X (dk D_Rf_number 27 rfl) (by decide) ?_
    refine v_istore (lb := [some (.ref 1003), some (.int (nI (na r))), some (.int (nI (i + 1))), some (.int (nI (f.2.1.getD i []).length)), some (.int (nI (stA f r i))), some (.int 1), some (.int (nI ((f.2.1.getD i []).length - 1))), none, none, none]) X (dk D_Rf_number 29 rfl) (by decide) rfl ?_
    refine v_iload_n X (dk D_Rf_number 30 rfl) rfl ?_
    refine v_if_eq (tgt := 68) X (dk D_Rf_number 31 rfl) (by decide) (fun c53 => absurd c53 (nI_ne0 (by omega) (by omega))) (fun _ => ?_)
    refine v_iload X (dk D_Rf_number 32 rfl) rfl ?_
    refine v_if_le (tgt := 72) X (dk D_Rf_number 33 rfl) (by decide) (fun c58 => absurd c58 (nI_nle (by omega) (by omega))) (fun _ => ?_)
    refine v_iload X (dk D_Rf_number 34 rfl) rfl ?_
    refine v_bipush (v := 10) X (dk D_Rf_number 35 rfl) (by decide) ?_
    refine v_icmp_ge (tgt := 72) X (dk D_Rf_number 36 rfl) (by decide) (fun c65 => absurd c65 (nI_ge (b := 10) (by omega) (by decide))) (fun _ => ?_)
    refine v_iconst (v := 1) X (dk D_Rf_number 37 rfl) (by decide) ?_
    refine v_goto (tgt := 73) X (dk D_Rf_number 38 rfl) (by decide) ?_
    refine v_istore (lb := [some (.ref 1003), some (.int (nI (na r))), some (.int (nI (i + 1))), some (.int (nI (f.2.1.getD i []).length)), some (.int (nI (stA f r i))), some (.int 1), some (.int (nI ((f.2.1.getD i []).length - 1))), some (.int 1), none, none]) X (dk D_Rf_number 40 rfl) (by decide) rfl ?_
    refine v_iconst (v := 0) X (dk D_Rf_number 41 rfl) (by decide) ?_
    refine v_istore (lb := [some (.ref 1003), some (.int (nI (na r))), some (.int (nI (i + 1))), some (.int (nI (f.2.1.getD i []).length)), some (.int (nI (stA f r i))), some (.int 1), some (.int (nI ((f.2.1.getD i []).length - 1))), some (.int 1), some (.int 0), none]) X (dk D_Rf_number 42 rfl) (by decide) rfl ?_
    refine v_iload X (dk D_Rf_number 43 rfl) rfl ?_
    refine v_if_eq (tgt := 87) X (dk D_Rf_number 44 rfl) (by decide) (fun c80 => absurd c80 (by decide)) (fun _ => ?_)
    refine v_iconst (v := nI 1) X (dk D_Rf_number 45 rfl) (by decide) ?_
    refine v_goto (tgt := 88) X (dk D_Rf_number 46 rfl) (by decide) ?_
    refine v_istore (lb := [some (.ref 1003), some (.int (nI (na r))), some (.int (nI (i + 1))), some (.int (nI (f.2.1.getD i []).length)), some (.int (nI (stA f r i))), some (.int 1), some (.int (nI ((f.2.1.getD i []).length - 1))), some (.int 1), some (.int 0), some (.int (nI 1))]) X (dk D_Rf_number 48 rfl) (by decide) rfl ?_
    exact loop1 ((f.2.1.getD i []).length - 1) 1 0 _ (by omega) (by rw [hX0, if_neg hT, List.drop_one])
  have hX0 : nmX (f.2.1.getD i []) = if 9 < (f.2.1.getD i []).length then none else nmD (f.2.1.getD i []) 0 := by rw [nmX, if_neg hA0, if_neg (fun z => hm ((b255_eq hb0 (show (45 : Int32).toInt8.toInt32 = 45 by decide)).mp (by rw [z]; rfl)))]
  by_cases hT : 9 < (f.2.1.getD i []).length
  · refine v_aload_n X (dk D_Rf_number 0 rfl) rfl ?_
    refine v_iload_n X (dk D_Rf_number 1 rfl) rfl ?_
    refine v_iload_n X (dk D_Rf_number 2 rfl) rfl ?_
    refine v_invV (As := [.int (nI (na r)), .int (nI (i + 1))]) (st := []) X (r_argumentSize l q (i := i) hS hC (by omega)) (dk D_Rf_number 3 rfl) G_Rf_272 K_Rf_argumentSize V_Rf_argumentSize rfl rfl (hS.lt (by decide)) rfl rfl (Nat.le_of_ble_eq_true rfl) (Nat.le_of_ble_eq_true rfl) (Nat.le_of_ble_eq_true rfl) (Nat.le_of_ble_eq_true rfl) (Nat.le_of_ble_eq_true rfl) ?_
    rintro v ws ⟨rfl, hws⟩
    rw [hws]
    show Vv _ _ _ _ _ _ _ _ _ _ _ _ _ _ _ [.int (nI (f.2.1.getD i []).length)] (0, 0, g)
    refine v_istore_n (lb := [some (.ref 1003), some (.int (nI (na r))), some (.int (nI (i + 1))), some (.int (nI (f.2.1.getD i []).length)), none, none, none, none, none, none]) X (dk D_Rf_number 4 rfl) (by decide) rfl ?_
    refine v_aload_n X (dk D_Rf_number 5 rfl) rfl ?_
    refine v_iload_n X (dk D_Rf_number 6 rfl) rfl ?_
    refine v_iload_n X (dk D_Rf_number 7 rfl) rfl ?_
    refine v_invV (As := [.int (nI (na r)), .int (nI (i + 1))]) (st := []) X (r_argumentAt l q (i := i) hS hC (by omega)) (dk D_Rf_number 8 rfl) G_Rf_268 K_Rf_argumentAt V_Rf_argumentAt rfl rfl (hS.lt (by decide)) rfl rfl (Nat.le_of_ble_eq_true rfl) (Nat.le_of_ble_eq_true rfl) (Nat.le_of_ble_eq_true rfl) (Nat.le_of_ble_eq_true rfl) (Nat.le_of_ble_eq_true rfl) ?_
    rintro v ws ⟨rfl, hws⟩
    rw [hws]
    show Vv _ _ _ _ _ _ _ _ _ _ _ _ _ _ _ [.int (nI (stA f r i))] (0, 0, g)
    refine v_istore (lb := [some (.ref 1003), some (.int (nI (na r))), some (.int (nI (i + 1))), some (.int (nI (f.2.1.getD i []).length)), some (.int (nI (stA f r i))), none, none, none, none, none]) X (dk D_Rf_number 9 rfl) (by decide) rfl ?_
    refine v_iload_n X (dk D_Rf_number 10 rfl) rfl ?_
    refine v_if_le (tgt := 35) X (dk D_Rf_number 11 rfl) (by decide) (fun c16 => absurd c16 (nI_nle (by omega) (by omega))) (fun _ => ?_)
    refine v_aload_n X (dk D_Rf_number 12 rfl) rfl ?_
    refine v_getF X (dk D_Rf_number 13 rfl) F_Rf_56 rfl rfl (hS.lt (by decide)) (hS.2 1003 35) ?_
    refine v_iload X (dk D_Rf_number 14 rfl) rfl ?_
    refine v_bald X (dk D_Rf_number 15 rfl) rfl (hS.lt (by decide)) (vp_in_nI (show stA f r i < 16385 by omega) (by decide)) ?_
    rw [nI_clamp (by omega), show gI g 1018 (stA f r i) = (f.2.1.getD i []).getD 0 0 from hrow 0 (by omega)]
    refine v_bipush (v := 45) X (dk D_Rf_number 16 rfl) (by decide) ?_
    refine v_icmp_ne (tgt := 35) X (dk D_Rf_number 17 rfl) (by decide) (fun _ => ?_) (fun c28 => absurd c28 hm)
    refine v_iconst (v := 0) X (dk D_Rf_number 20 rfl) (by decide) ?_
    refine v_istore (lb := [some (.ref 1003), some (.int (nI (na r))), some (.int (nI (i + 1))), some (.int (nI (f.2.1.getD i []).length)), some (.int (nI (stA f r i))), some (.int 0), none, none, none, none]) X (dk D_Rf_number 21 rfl) (by decide) rfl ?_
    refine v_iload X (dk D_Rf_number 22 rfl) rfl ?_
    refine v_if_eq (tgt := 49) X (dk D_Rf_number 23 rfl) (by decide) (fun _ => ?_) (fun c40 => absurd rfl c40)
    refine v_iload_n X (dk D_Rf_number 28 rfl) rfl ?_
    refine v_istore (lb := [some (.ref 1003), some (.int (nI (na r))), some (.int (nI (i + 1))), some (.int (nI (f.2.1.getD i []).length)), some (.int (nI (stA f r i))), some (.int 0), some (.int (nI (f.2.1.getD i []).length)), none, none, none]) X (dk D_Rf_number 29 rfl) (by decide) rfl ?_
    refine v_iload_n X (dk D_Rf_number 30 rfl) rfl ?_
    refine v_if_eq (tgt := 68) X (dk D_Rf_number 31 rfl) (by decide) (fun c53 => absurd c53 (nI_ne0 (by omega) (by omega))) (fun _ => ?_)
    refine v_iload X (dk D_Rf_number 32 rfl) rfl ?_
    refine v_if_le (tgt := 72) X (dk D_Rf_number 33 rfl) (by decide) (fun c58 => absurd c58 (nI_nle (by omega) (by omega))) (fun _ => ?_)
    refine v_iload X (dk D_Rf_number 34 rfl) rfl ?_
    refine v_bipush (v := 10) X (dk D_Rf_number 35 rfl) (by decide) ?_
    refine v_icmp_ge (tgt := 72) X (dk D_Rf_number 36 rfl) (by decide) (fun _ => ?_) (fun c65 => absurd (nI_le (a := 10) (by omega) (by omega)) c65)
    refine v_iconst (v := 0) X (dk D_Rf_number 39 rfl) (by decide) ?_
    refine v_istore (lb := [some (.ref 1003), some (.int (nI (na r))), some (.int (nI (i + 1))), some (.int (nI (f.2.1.getD i []).length)), some (.int (nI (stA f r i))), some (.int 0), some (.int (nI (f.2.1.getD i []).length)), some (.int 0), none, none]) X (dk D_Rf_number 40 rfl) (by decide) rfl ?_
    refine v_iconst (v := 0) X (dk D_Rf_number 41 rfl) (by decide) ?_
    refine v_istore (lb := [some (.ref 1003), some (.int (nI (na r))), some (.int (nI (i + 1))), some (.int (nI (f.2.1.getD i []).length)), some (.int (nI (stA f r i))), some (.int 0), some (.int (nI (f.2.1.getD i []).length)), some (.int 0), some (.int 0), none]) X (dk D_Rf_number 42 rfl) (by decide) rfl ?_
    refine v_iload X (dk D_Rf_number 43 rfl) rfl ?_
    refine v_if_eq (tgt := 87) X (dk D_Rf_number 44 rfl) (by decide) (fun _ => ?_) (fun c80 => absurd rfl c80)
    refine v_iconst (v := nI 0) X (dk D_Rf_number 47 rfl) (by decide) ?_
    refine v_istore (lb := [some (.ref 1003), some (.int (nI (na r))), some (.int (nI (i + 1))), some (.int (nI (f.2.1.getD i []).length)), some (.int (nI (stA f r i))), some (.int 0), some (.int (nI (f.2.1.getD i []).length)), some (.int 0), some (.int 0), some (.int (nI 0))]) X (dk D_Rf_number 48 rfl) (by decide) rfl ?_
    exact bad0 (by rw [hX0, if_pos hT]) 0 0 _ (by omega)
  · refine v_aload_n X (dk D_Rf_number 0 rfl) rfl ?_
    refine v_iload_n X (dk D_Rf_number 1 rfl) rfl ?_
    refine v_iload_n X (dk D_Rf_number 2 rfl) rfl ?_
    refine v_invV (As := [.int (nI (na r)), .int (nI (i + 1))]) (st := []) X (r_argumentSize l q (i := i) hS hC (by omega)) (dk D_Rf_number 3 rfl) G_Rf_272 K_Rf_argumentSize V_Rf_argumentSize rfl rfl (hS.lt (by decide)) rfl rfl (Nat.le_of_ble_eq_true rfl) (Nat.le_of_ble_eq_true rfl) (Nat.le_of_ble_eq_true rfl) (Nat.le_of_ble_eq_true rfl) (Nat.le_of_ble_eq_true rfl) ?_
    rintro v ws ⟨rfl, hws⟩
    rw [hws]
    show Vv _ _ _ _ _ _ _ _ _ _ _ _ _ _ _ [.int (nI (f.2.1.getD i []).length)] (0, 0, g)
    refine v_istore_n (lb := [some (.ref 1003), some (.int (nI (na r))), some (.int (nI (i + 1))), some (.int (nI (f.2.1.getD i []).length)), none, none, none, none, none, none]) X (dk D_Rf_number 4 rfl) (by decide) rfl ?_
    refine v_aload_n X (dk D_Rf_number 5 rfl) rfl ?_
    refine v_iload_n X (dk D_Rf_number 6 rfl) rfl ?_
    refine v_iload_n X (dk D_Rf_number 7 rfl) rfl ?_
    refine v_invV (As := [.int (nI (na r)), .int (nI (i + 1))]) (st := []) X (r_argumentAt l q (i := i) hS hC (by omega)) (dk D_Rf_number 8 rfl) G_Rf_268 K_Rf_argumentAt V_Rf_argumentAt rfl rfl (hS.lt (by decide)) rfl rfl (Nat.le_of_ble_eq_true rfl) (Nat.le_of_ble_eq_true rfl) (Nat.le_of_ble_eq_true rfl) (Nat.le_of_ble_eq_true rfl) (Nat.le_of_ble_eq_true rfl) ?_
    rintro v ws ⟨rfl, hws⟩
    rw [hws]
    show Vv _ _ _ _ _ _ _ _ _ _ _ _ _ _ _ [.int (nI (stA f r i))] (0, 0, g)
    refine v_istore (lb := [some (.ref 1003), some (.int (nI (na r))), some (.int (nI (i + 1))), some (.int (nI (f.2.1.getD i []).length)), some (.int (nI (stA f r i))), none, none, none, none, none]) X (dk D_Rf_number 9 rfl) (by decide) rfl ?_
    refine v_iload_n X (dk D_Rf_number 10 rfl) rfl ?_
    refine v_if_le (tgt := 35) X (dk D_Rf_number 11 rfl) (by decide) (fun c16 => absurd c16 (nI_nle (by omega) (by omega))) (fun _ => ?_)
    refine v_aload_n X (dk D_Rf_number 12 rfl) rfl ?_
    refine v_getF X (dk D_Rf_number 13 rfl) F_Rf_56 rfl rfl (hS.lt (by decide)) (hS.2 1003 35) ?_
    refine v_iload X (dk D_Rf_number 14 rfl) rfl ?_
    refine v_bald X (dk D_Rf_number 15 rfl) rfl (hS.lt (by decide)) (vp_in_nI (show stA f r i < 16385 by omega) (by decide)) ?_
    rw [nI_clamp (by omega), show gI g 1018 (stA f r i) = (f.2.1.getD i []).getD 0 0 from hrow 0 (by omega)]
    refine v_bipush (v := 45) X (dk D_Rf_number 16 rfl) (by decide) ?_
    refine v_icmp_ne (tgt := 35) X (dk D_Rf_number 17 rfl) (by decide) (fun _ => ?_) (fun c28 => absurd c28 hm)
    refine v_iconst (v := 0) X (dk D_Rf_number 20 rfl) (by decide) ?_
    refine v_istore (lb := [some (.ref 1003), some (.int (nI (na r))), some (.int (nI (i + 1))), some (.int (nI (f.2.1.getD i []).length)), some (.int (nI (stA f r i))), some (.int 0), none, none, none, none]) X (dk D_Rf_number 21 rfl) (by decide) rfl ?_
    refine v_iload X (dk D_Rf_number 22 rfl) rfl ?_
    refine v_if_eq (tgt := 49) X (dk D_Rf_number 23 rfl) (by decide) (fun _ => ?_) (fun c40 => absurd rfl c40)
    refine v_iload_n X (dk D_Rf_number 28 rfl) rfl ?_
    refine v_istore (lb := [some (.ref 1003), some (.int (nI (na r))), some (.int (nI (i + 1))), some (.int (nI (f.2.1.getD i []).length)), some (.int (nI (stA f r i))), some (.int 0), some (.int (nI (f.2.1.getD i []).length)), none, none, none]) X (dk D_Rf_number 29 rfl) (by decide) rfl ?_
    refine v_iload_n X (dk D_Rf_number 30 rfl) rfl ?_
    refine v_if_eq (tgt := 68) X (dk D_Rf_number 31 rfl) (by decide) (fun c53 => absurd c53 (nI_ne0 (by omega) (by omega))) (fun _ => ?_)
    refine v_iload X (dk D_Rf_number 32 rfl) rfl ?_
    refine v_if_le (tgt := 72) X (dk D_Rf_number 33 rfl) (by decide) (fun c58 => absurd c58 (nI_nle (by omega) (by omega))) (fun _ => ?_)
    refine v_iload X (dk D_Rf_number 34 rfl) rfl ?_
    refine v_bipush (v := 10) X (dk D_Rf_number 35 rfl) (by decide) ?_
    refine v_icmp_ge (tgt := 72) X (dk D_Rf_number 36 rfl) (by decide) (fun c65 => absurd c65 (nI_ge (b := 10) (by omega) (by decide))) (fun _ => ?_)
    refine v_iconst (v := 1) X (dk D_Rf_number 37 rfl) (by decide) ?_
    refine v_goto (tgt := 73) X (dk D_Rf_number 38 rfl) (by decide) ?_
    refine v_istore (lb := [some (.ref 1003), some (.int (nI (na r))), some (.int (nI (i + 1))), some (.int (nI (f.2.1.getD i []).length)), some (.int (nI (stA f r i))), some (.int 0), some (.int (nI (f.2.1.getD i []).length)), some (.int 1), none, none]) X (dk D_Rf_number 40 rfl) (by decide) rfl ?_
    refine v_iconst (v := 0) X (dk D_Rf_number 41 rfl) (by decide) ?_
    refine v_istore (lb := [some (.ref 1003), some (.int (nI (na r))), some (.int (nI (i + 1))), some (.int (nI (f.2.1.getD i []).length)), some (.int (nI (stA f r i))), some (.int 0), some (.int (nI (f.2.1.getD i []).length)), some (.int 1), some (.int 0), none]) X (dk D_Rf_number 42 rfl) (by decide) rfl ?_
    refine v_iload X (dk D_Rf_number 43 rfl) rfl ?_
    refine v_if_eq (tgt := 87) X (dk D_Rf_number 44 rfl) (by decide) (fun _ => ?_) (fun c80 => absurd rfl c80)
    refine v_iconst (v := nI 0) X (dk D_Rf_number 47 rfl) (by decide) ?_
    refine v_istore (lb := [some (.ref 1003), some (.int (nI (na r))), some (.int (nI (i + 1))), some (.int (nI (f.2.1.getD i []).length)), some (.int (nI (stA f r i))), some (.int 0), some (.int (nI (f.2.1.getD i []).length)), some (.int 1), some (.int 0), some (.int (nI 0))]) X (dk D_Rf_number 48 rfl) (by decide) rfl ?_
    exact loop0 (f.2.1.getD i []).length 0 0 _ (by omega) (by rw [hX0, if_neg hT]; rfl)
