/-! Expression: what stands next -/
theorem rck_inv (s : Int32) : ∀ (ws : List Nat) (vs : List Int32) (bz : Bool), okW ws → vs.length = btw ws + 1 → okW (rck s ws vs bz).2.1 ∧ (rck s ws vs bz).1.length = btw (rck s ws vs bz).2.1 + 1 ∧ frn (rck s ws vs bz).2.1 ≤ frn ws ∧ ∀ p r, (rck s ws vs bz).2.1 = p :: r → opS p < s
  | [], vs, bz, _, hv => by
    have e : rck s [] vs bz = (vs, [], bz) := by cases vs <;> rfl
    rw [e]
    exact ⟨trivial, hv, Nat.le_refl _, fun p r h => by cases h⟩
  | o :: ws, [], bz, _, hv => by rw [List.length_nil] at hv; omega
  | o :: ws, v :: vs, bz, hw, hv => by
    rw [rck_c]
    by_cases c : opS o < s
    · rw [if_pos c]
      exact ⟨hw, hv, Nat.le_refl _, fun p r h => by cases h; exact c⟩
    · rw [if_neg c]
      by_cases f : 18 ≤ o
      · rw [if_pos f]
        rw [btw, if_pos f, List.length_cons] at hv
        obtain ⟨a, b, c, d⟩ := rck_inv s ws (ofO o v :: vs) bz hw.2.1 (by rw [List.length_cons]; omega)
        exact ⟨a, b, by rw [frn]; omega, d⟩
      · rw [if_neg f]
        rw [btw, if_neg f, List.length_cons] at hv
        cases vs with
        | nil => rw [List.length_nil] at hv; omega
        | cons x vs =>
          rw [List.length_cons] at hv
          obtain ⟨a, b, c, d⟩ := rck_inv s ws (ofT o x v :: vs) (bz || bzT o v) hw.2.1 (by rw [List.length_cons]; omega)
          refine ⟨a, b, ?_, d⟩
          show frn (rck s ws (ofT o x v :: vs) (bz || bzT o v)).2.1 ≤ _
          rw [frn]; omega
theorem op22 : ∀ p, p < 23 → opS p < 1 → p = 22 := by decide +kernel
/-- the rest of an expression -/
def rsE (xs : List Int32) (at_ en : Nat) : List Int32 := (xs.drop at_).take (en - at_)
theorem rsE_len {xs : List Int32} {at_ en : Nat} (h : en ≤ xs.length) : (rsE xs at_ en).length = en - at_ := by
  rw [rsE, List.length_take, List.length_drop]; omega
theorem rsE_get {xs : List Int32} {at_ en k : Nat} (h : k < en - at_) : (rsE xs at_ en).getD k 0 = xs.getD (at_ + k) 0 := by
  rw [rsE, List.getD_eq_getElem?_getD, List.getD_eq_getElem?_getD, List.getElem?_take, if_pos h, List.getElem?_drop]
theorem rsE_cons {xs : List Int32} {at_ en : Nat} (h : at_ < en) (he : en ≤ xs.length) : rsE xs at_ en = xs.getD at_ 0 :: rsE xs (at_ + 1) en := by
  rw [rsE, rsE, List.drop_eq_getElem_cons (by omega : at_ < xs.length), show en - at_ = (en - (at_ + 1)) + 1 by omega, List.take_succ_cons, List.getD_eq_getElem?_getD, List.getElem?_eq_getElem (by omega)]
  rfl
theorem rsE_nil {xs : List Int32} {at_ en : Nat} (h : en ≤ at_) : rsE xs at_ en = [] := by
  rw [rsE, show en - at_ = 0 by omega, List.take_zero]
theorem rsE_drop {xs : List Int32} {at_ en k : Nat} : (rsE xs at_ en).drop k = rsE xs (at_ + k) en := by
  rw [rsE, rsE, List.drop_take, List.drop_drop, show en - at_ - k = en - (at_ + k) by omega]
set_option maxHeartbeats 4000000 in
set_option maxRecDepth 100000 in
theorem k_isNext (l : Launch) (q : ev_T) {i : Nat} {b r0 n0 at_ en : Nat} {xs : List Int32} {ov : Bool} {vs : List Int32} {ws : List Nat} {ns : Nat} {due bz : Bool} {g : mu_T} (hS : Shp g) (hE : EX g b at_ en vs ws ns due bz) (hY : RB g b r0 n0 xs ov) (hn0 : n0 < 1073741824) (hen : en ≤ xs.length) (hae : at_ ≤ en) (hi : i < 38) : Ctr l q M_Ex_isNext 4 [.ref 997, .ref (1048640 + i)] (0, 0, g) (fun v w => v = some (.int (if isPr (sx_B.getD i []) (rsE xs at_ en) = true then 1 else 0)) ∧ w.2.2 = g) := by
  have hyn := hY.2.1
  have hsx : ∀ i, i < 38 → sxl i ≤ 11 := by decide +kernel
  have hsi := hsx i hi
  refine Ctr.mk (lb := [some (.ref 997), some (.ref (1048640 + i)), none]) (by decide +kernel) (Nat.le_of_ble_eq_true rfl) rfl rfl ?_
  intro pp ee ss mm aa bb mt cd X hrt hlk hnm
  have loop : sxl i ≤ en - at_ → ∀ (d k : Nat), k + d = sxl i → (∀ j, j < k → (rsE xs at_ en).getD j 0 &&& 255 = (sx_B.getD i []).getD j 0) → Vv pp l ee (rmT 4 0 0) ss mm aa bb mt cd 3 q (MQ bb (Qw q (fun v w => v = some (.int (if isPr (sx_B.getD i []) (rsE xs at_ en) = true then 1 else 0)) ∧ w.2.2 = g)) aa ss 0 0 (fun a => q.1 ≤ a)) 20 [some (.ref 997), some (.ref (1048640 + i)), some (.int (nI k))] [] (0, 0, g) := by
    intro hle d
    induction d with
    | zero =>
      intro k hkd hm
      refine v_iload_n X (dk D_Ex_isNext 12 rfl) rfl ?_
      refine v_aload_n X (dk D_Ex_isNext 13 rfl) rfl ?_
      refine v_invVS (b := (1048640 + i)) (As := []) (st := [.int (nI k)]) X (c_St_length l q hi) (dk D_Ex_isNext 14 rfl) g_Ex_121 K_St_length V_St_length (X.sf.2.2.1 i hi).1 rfl rfl (Nat.le_of_ble_eq_true rfl) (Nat.le_of_ble_eq_true rfl) (Nat.le_of_ble_eq_true rfl) (Nat.le_of_ble_eq_true rfl) (Nat.le_of_ble_eq_true rfl) ?_
      rintro v w ⟨rfl, hw⟩
      rw [hw]
      show Vv _ _ _ _ _ _ _ _ _ _ _ _ _ _ _ [.int (nI (sxl i)), .int (nI k)] (0, 0, g)
      refine v_icmp_ge (tgt := 57) X (dk D_Ex_isNext 15 rfl) (by decide) (fun _ => ?_) (fun c25 => absurd (nI_le (by omega) (by omega)) c25)
      refine v_iconst (v := 1) X (dk D_Ex_isNext 31 rfl) (by decide) ?_
      exact v_zret X hlk hrt rfl (dk D_Ex_isNext 32 rfl) ⟨by rw [if_pos (show isPr (sx_B.getD i []) (rsE xs at_ en) = true from decide_eq_true ⟨by rw [rsE_len hen]; exact hle, fun j hj => hm j (show j < k by have : sxl i = (sx_B.getD i []).length := rfl; omega)⟩)], rfl⟩
    | succ d ih =>
      intro k hkd hm
      refine v_iload_n X (dk D_Ex_isNext 12 rfl) rfl ?_
      refine v_aload_n X (dk D_Ex_isNext 13 rfl) rfl ?_
      refine v_invVS (b := (1048640 + i)) (As := []) (st := [.int (nI k)]) X (c_St_length l q hi) (dk D_Ex_isNext 14 rfl) g_Ex_121 K_St_length V_St_length (X.sf.2.2.1 i hi).1 rfl rfl (Nat.le_of_ble_eq_true rfl) (Nat.le_of_ble_eq_true rfl) (Nat.le_of_ble_eq_true rfl) (Nat.le_of_ble_eq_true rfl) (Nat.le_of_ble_eq_true rfl) ?_
      rintro v w ⟨rfl, hw⟩
      rw [hw]
      show Vv _ _ _ _ _ _ _ _ _ _ _ _ _ _ _ [.int (nI (sxl i)), .int (nI k)] (0, 0, g)
      refine v_icmp_ge (tgt := 57) X (dk D_Ex_isNext 15 rfl) (by decide) (fun c25 => absurd c25 (nI_ge (by omega) (by omega))) (fun _ => ?_)
      refine v_aload_n X (dk D_Ex_isNext 16 rfl) rfl ?_
      refine v_getR X (dk D_Ex_isNext 17 rfl) F_Ex_14 rfl rfl (hS.lt (by decide)) hE.1 ?_
      refine v_aload_n X (dk D_Ex_isNext 18 rfl) rfl ?_
      refine v_getI X (dk D_Ex_isNext 19 rfl) F_Ex_34 rfl rfl (hS.lt (by decide)) ?_
      rw [hE.2.1]
      refine v_iload_n X (dk D_Ex_isNext 20 rfl) rfl ?_
      refine v_iadd X (dk D_Ex_isNext 21 rfl) ?_
      rw [nI_add]
      refine v_invV (As := [.int (nI (at_ + k))]) (st := []) X (k_at l q hY) (dk D_Ex_isNext 22 rfl) G_Ex_41 K_By_at V_By_at hY.1.1 rfl hY.1.2.1 rfl rfl (Nat.le_of_ble_eq_true rfl) (Nat.le_of_ble_eq_true rfl) (Nat.le_of_ble_eq_true rfl) (Nat.le_of_ble_eq_true rfl) (Nat.le_of_ble_eq_true rfl) ?_
      rintro v w ⟨rfl, hw⟩
      rw [hw, atL_nI (show at_ + k < xs.length by omega) (by omega)]
      show Vv _ _ _ _ _ _ _ _ _ _ _ _ _ _ _ [.int (xs.getD (at_ + k) 0 &&& 255)] (0, 0, g)
      refine v_aload_n X (dk D_Ex_isNext 23 rfl) rfl ?_
      refine v_iload_n X (dk D_Ex_isNext 24 rfl) rfl ?_
      refine v_invVS (b := (1048640 + i)) (As := [.int (nI k)]) (st := [.int (xs.getD (at_ + k) 0 &&& 255)]) X (c_St_charAt l q hi (show k < sxl i by omega)) (dk D_Ex_isNext 25 rfl) g_Ex_137 K_St_charAt V_St_charAt (X.sf.2.2.1 i hi).1 rfl rfl (Nat.le_of_ble_eq_true rfl) (Nat.le_of_ble_eq_true rfl) (Nat.le_of_ble_eq_true rfl) (Nat.le_of_ble_eq_true rfl) (Nat.le_of_ble_eq_true rfl) ?_
      rintro v w ⟨rfl, hw⟩
      rw [hw]
      show Vv _ _ _ _ _ _ _ _ _ _ _ _ _ _ _ [.int (sxc i k), .int (xs.getD (at_ + k) 0 &&& 255)] (0, 0, g)
      refine v_icmp_eq (tgt := 51) X (dk D_Ex_isNext 26 rfl) (by decide) (fun c46 => ?_) (fun c46 => ?_)
      · refine v_iinc (v := nI (k + 1)) (lb := [some (.ref 997), some (.ref (1048640 + i)), some (.int (nI (k + 1)))]) X (dk D_Ex_isNext 29 rfl) rfl (nI_1 k) (by decide) rfl ?_
        refine v_goto (tgt := 20) X (dk D_Ex_isNext 30 rfl) (by decide) ?_
        exact ih (k + 1) (by omega) (fun j hj => by by_cases e : j = k; rw [e, rsE_get (by omega)]; exact c46; exact hm j (by omega))
      · refine v_iconst (v := 0) X (dk D_Ex_isNext 27 rfl) (by decide) ?_
        exact v_zret X hlk hrt rfl (dk D_Ex_isNext 28 rfl) ⟨by rw [if_neg (fun e => c46 (by have := (of_decide_eq_true e).2 k (show k < sxl i by omega); rw [rsE_get (by omega)] at this; exact this))], rfl⟩
  refine v_aload_n X (dk D_Ex_isNext 0 rfl) rfl ?_
  refine v_invVS (b := (1048640 + i)) (As := []) (st := []) X (c_St_length l q hi) (dk D_Ex_isNext 1 rfl) g_Ex_121 K_St_length V_St_length (X.sf.2.2.1 i hi).1 rfl rfl (Nat.le_of_ble_eq_true rfl) (Nat.le_of_ble_eq_true rfl) (Nat.le_of_ble_eq_true rfl) (Nat.le_of_ble_eq_true rfl) (Nat.le_of_ble_eq_true rfl) ?_
  rintro v w ⟨rfl, hw⟩
  rw [hw]
  show Vv _ _ _ _ _ _ _ _ _ _ _ _ _ _ _ [.int (nI (sxl i))] (0, 0, g)
  refine v_aload_n X (dk D_Ex_isNext 2 rfl) rfl ?_
  refine v_getI X (dk D_Ex_isNext 3 rfl) F_Ex_38 rfl rfl (hS.lt (by decide)) ?_
  rw [hE.2.2.1]
  refine v_aload_n X (dk D_Ex_isNext 4 rfl) rfl ?_
  refine v_getI X (dk D_Ex_isNext 5 rfl) F_Ex_34 rfl rfl (hS.lt (by decide)) ?_
  rw [hE.2.1]
  refine v_isub X (dk D_Ex_isNext 6 rfl) ?_
  refine v_icmp_le (tgt := 18) X (dk D_Ex_isNext 7 rfl) (by decide) (fun c13 => ?_) (fun c13 => ?_)
  · refine v_iconst (v := nI 0) X (dk D_Ex_isNext 10 rfl) (by decide) ?_
    refine v_istore_n (lb := [some (.ref 997), some (.ref (1048640 + i)), some (.int (nI 0))]) X (dk D_Ex_isNext 11 rfl) (by decide) rfl ?_
    exact loop (by rw [le_sub3 (by omega) (by omega) (by omega)] at c13; omega) (sxl i) 0 (by omega) (fun j hj => by omega)
  · refine v_iconst (v := 0) X (dk D_Ex_isNext 8 rfl) (by decide) ?_
    exact v_zret X hlk hrt rfl (dk D_Ex_isNext 9 rfl) ⟨by rw [if_neg (fun e => c13 (by rw [le_sub3 (by omega) (by omega) (by omega)]; have := (of_decide_eq_true e).1; rw [rsE_len hen] at this; have h2 : sxl i = (sx_B.getD i []).length := rfl; omega))], rfl⟩
theorem opS_tx : ∀ i, i < 23 → op_S.getD i 0 < 38 := by decide +kernel
theorem rng_drop {k : Nat} (h : k < 18) : (List.range 18).drop k = k :: (List.range 18).drop (k + 1) := by
  rw [List.drop_eq_getElem_cons (by simp; omega)]
  simp
set_option maxHeartbeats 4000000 in
set_option maxRecDepth 100000 in
theorem k_between (l : Launch) (q : ev_T) {b r0 n0 at_ en : Nat} {xs : List Int32} {ov : Bool} {vs : List Int32} {ws : List Nat} {ns : Nat} {due bz : Bool} {g : mu_T} (hS : Shp g) (hE : EX g b at_ en vs ws ns due bz) (hY : RB g b r0 n0 xs ov) (hn0 : n0 < 1073741824) (hen : en ≤ xs.length) (hae : at_ ≤ en) : Ctr l q M_Ex_between 5 [.ref 997] (0, 0, g) (fun v w => v = some (va_rf ((btO (rsE xs at_ en)).map (fun o => 1048600 + o))) ∧ w.2.2 = g) := by

  refine Ctr.mk (lb := [some (.ref 997), none, none]) (by decide +kernel) (Nat.le_of_ble_eq_true rfl) rfl rfl ?_
  intro pp ee ss mm aa bb mt cd X hrt hlk hnm
  have loop : ∀ (d k : Nat), k + d = 23 → btO (rsE xs at_ en) = ((List.range 18).drop k).find? (fun o => isPr (sgO o) (rsE xs at_ en)) → Vv pp l ee (rmT 5 0 0) ss mm aa bb mt cd 3 q (MQ bb (Qw q (fun v w => v = some (va_rf ((btO (rsE xs at_ en)).map (fun o => 1048600 + o))) ∧ w.2.2 = g)) aa ss 0 0 (fun a => q.1 ≤ a)) 2 [some (.ref 997), some (.int (nI k)), none] [] (0, 0, g) := by
    intro d
    induction d with
    | zero =>
      intro k hkd hfd
      refine v_iload_n X (dk D_Ex_between 2 rfl) rfl ?_
      refine v_gets (v := .ref 1048751) X (dk D_Ex_between 3 rfl) (Or.inr ⟨"RescanMill", List.mem_of_getElem? (i := 11) rfl⟩) X.sf.2.2.2.2.1.1 ?_
      refine v_salen (v := nI 23) X (dk D_Ex_between 4 rfl) X.sf.2.2.2.2.1.2 rfl ?_
      refine v_icmp_ge (tgt := 42) X (dk D_Ex_between 5 rfl) (by decide) (fun _ => ?_) (fun c7 => absurd (nI_le (a := 23) (by omega) (by omega)) c7)
      refine v_null X (dk D_Ex_between 22 rfl) ?_
      exact v_aret (r := none) X hlk hrt (Or.inl ⟨_, rfl⟩) (dk D_Ex_between 23 rfl) ⟨by rw [hfd, List.drop_eq_nil_of_le (by simp; omega)]; rfl, rfl⟩
    | succ d ih =>
      intro k hkd hfd
      refine v_iload_n X (dk D_Ex_between 2 rfl) rfl ?_
      refine v_gets (v := .ref 1048751) X (dk D_Ex_between 3 rfl) (Or.inr ⟨"RescanMill", List.mem_of_getElem? (i := 11) rfl⟩) X.sf.2.2.2.2.1.1 ?_
      refine v_salen (v := nI 23) X (dk D_Ex_between 4 rfl) X.sf.2.2.2.2.1.2 rfl ?_
      refine v_icmp_ge (tgt := 42) X (dk D_Ex_between 5 rfl) (by decide) (fun c7 => absurd c7 (nI_ge (b := 23) (by omega) (by omega))) (fun _ => ?_)
      refine v_gets (v := .ref 1048751) X (dk D_Ex_between 6 rfl) (Or.inr ⟨"RescanMill", List.mem_of_getElem? (i := 11) rfl⟩) X.sf.2.2.2.2.1.1 ?_
      refine v_iload_n X (dk D_Ex_between 7 rfl) rfl ?_
      refine v_saald (v := .ref (1048600 + k)) X (dk D_Ex_between 8 rfl) X.sf.2.2.2.2.1.2 (vp_in_nI (show k < 23 by omega) (by decide)) (by rw [nI_clamp (by omega)]; rfl) ?_
      refine v_astore_n (lb := [some (.ref 997), some (.int (nI k)), some (.ref (1048600 + k))]) X (dk D_Ex_between 9 rfl) (by decide) rfl ?_
      refine v_aload_n X (dk D_Ex_between 10 rfl) rfl ?_
      refine v_invVS (b := 1048600 + k) (As := []) (st := []) X (c_isBetween l q (i := k) (by omega)) (dk D_Ex_between 11 rfl) g_Ex_130 K_Op_isBetween V_Op_isBetween (X.sf.2.1 k (by omega)).1 rfl rfl (Nat.le_of_ble_eq_true rfl) (Nat.le_of_ble_eq_true rfl) (Nat.le_of_ble_eq_true rfl) (Nat.le_of_ble_eq_true rfl) (Nat.le_of_ble_eq_true rfl) ?_
      rintro v w ⟨rfl, hw⟩
      rw [hw]
      show Vv _ _ _ _ _ _ _ _ _ _ _ _ _ _ _ [.int (if k < 18 then 1 else 0)] (0, 0, g)
      refine v_if_eq (tgt := 36) X (dk D_Ex_between 12 rfl) (by decide) (fun c20 => ?_) (fun c20 => ?_)
      · refine v_iinc (v := nI (k + 1)) (lb := [some (.ref 997), some (.int (nI (k + 1))), some (.ref (1048600 + k))]) X (dk D_Ex_between 20 rfl) rfl (nI_1 k) (by decide) rfl ?_
        refine v_goto (tgt := 2) X (dk D_Ex_between 21 rfl) (by decide) ?_
        exact v_weak (la := [some (.ref 997), some (.int (nI (k + 1))), none]) ⟨rfl, rfl, trivial⟩ (ih (k + 1) (by omega) (by rw [hfd, List.drop_eq_nil_of_le (by simp; have : ¬ k < 18 := fun e => absurd c20 (by rw [if_pos e]; decide); omega), List.drop_eq_nil_of_le (by simp; have : ¬ k < 18 := fun e => absurd c20 (by rw [if_pos e]; decide); omega)]))
      · refine v_aload_n X (dk D_Ex_between 13 rfl) rfl ?_
        refine v_aload_n X (dk D_Ex_between 14 rfl) rfl ?_
        refine v_sget (v := .ref (1048640 + op_S.getD k 0)) X (dk D_Ex_between 15 rfl) Z_Ex_117 (X.sf.2.1 k (by omega)).2.2.2.1 ?_
        refine v_invV (As := [.ref (1048640 + op_S.getD k 0)]) (st := []) X (k_isNext l q hS hE hY hn0 hen hae (opS_tx k (by omega))) (dk D_Ex_between 16 rfl) G_Ex_133 K_Ex_isNext V_Ex_isNext rfl rfl (hS.lt (by decide)) rfl rfl (Nat.le_of_ble_eq_true rfl) (Nat.le_of_ble_eq_true rfl) (Nat.le_of_ble_eq_true rfl) (Nat.le_of_ble_eq_true rfl) (Nat.le_of_ble_eq_true rfl) ?_
        rintro v w ⟨rfl, hw⟩
        rw [hw]
        show Vv _ _ _ _ _ _ _ _ _ _ _ _ _ _ _ [.int (if isPr (sgO k) (rsE xs at_ en) = true then 1 else 0)] (0, 0, g)
        refine v_if_eq (tgt := 36) X (dk D_Ex_between 17 rfl) (by decide) (fun c31 => ?_) (fun c31 => ?_)
        · refine v_iinc (v := nI (k + 1)) (lb := [some (.ref 997), some (.int (nI (k + 1))), some (.ref (1048600 + k))]) X (dk D_Ex_between 20 rfl) rfl (nI_1 k) (by decide) rfl ?_
          refine v_goto (tgt := 2) X (dk D_Ex_between 21 rfl) (by decide) ?_
          exact v_weak (la := [some (.ref 997), some (.int (nI (k + 1))), none]) ⟨rfl, rfl, trivial⟩ (ih (k + 1) (by omega) (by rw [hfd, rng_drop (show k < 18 from Decidable.byContradiction (fun e => c20 (if_neg e))), List.find?_cons_of_neg (p := fun o => isPr (sgO o) (rsE xs at_ en)) (fun e => absurd c31 (by rw [if_pos e]; decide))]))
        · refine v_aload_n X (dk D_Ex_between 18 rfl) rfl ?_
          exact v_aret (r := some (1048600 + k)) X hlk hrt (Or.inl ⟨_, rfl⟩) (dk D_Ex_between 19 rfl) ⟨by rw [hfd, rng_drop (show k < 18 from Decidable.byContradiction (fun e => c20 (if_neg e))), List.find?_cons_of_pos (p := fun o => isPr (sgO o) (rsE xs at_ en)) (Decidable.byContradiction (fun e => c31 (if_neg e)))]; rfl, rfl⟩
  refine v_iconst (v := nI 0) X (dk D_Ex_between 0 rfl) (by decide) ?_
  refine v_istore_n (lb := [some (.ref 997), some (.int (nI 0)), none]) X (dk D_Ex_between 1 rfl) (by decide) rfl ?_
  exact loop 23 0 (by omega) rfl
theorem lkp_n : ∀ j, j < 256 → j = 33 ∨ j = 40 ∨ j = 43 ∨ j = 45 ∨ j = 126 ∨ Op.lookupswitch.offset [(33, 67), (40, 51), (43, 55), (45, 59), (126, 63)] 106 (nI j).toInt = 106 := by decide +kernel
theorem lkp_no (j : Nat) (hj : j < 256) (h1 : j ≠ 33) (h2 : j ≠ 40) (h3 : j ≠ 43) (h4 : j ≠ 45) (h5 : j ≠ 126) : Op.lookupswitch.offset [(33, 67), (40, 51), (43, 55), (45, 59), (126, 63)] 106 (nI j).toInt = 106 := by
  rcases lkp_n j hj with h | h | h | h | h | h
  · exact absurd h h1
  · exact absurd h h2
  · exact absurd h h3
  · exact absurd h h4
  · exact absurd h h5
  · exact h
theorem frO_no : ∀ j, j < 256 → j ≠ 33 → j ≠ 40 → j ≠ 43 → j ≠ 45 → j ≠ 126 → ∀ s, frO (nI j) s = none := fun j hj h1 h2 h3 h4 h5 s => by
  have e : ∀ k, k < 256 → j ≠ k → ¬ nI j = nI k := fun k hk h z => h ((nI_eq (by omega) (by omega)).mp z)
  rw [frO, if_neg (show ¬ nI j = 40 from e 40 (by decide) h2), if_neg (show ¬ nI j = 43 from e 43 (by decide) h3), if_neg (show ¬ nI j = 45 from e 45 (by decide) h4), if_neg (show ¬ nI j = 126 from e 126 (by decide) h5), if_neg (show ¬ nI j = 33 from e 33 (by decide) h1)]
theorem frO_33 (s : List Int32) : frO (nI 33) s = if atL s (nI 0) = 61 then none else some 21 := by
  rw [frO, if_neg (by decide), if_neg (by decide), if_neg (by decide), if_neg (by decide), if_pos (by decide)]
theorem atL_rs {xs : List Int32} {a en : Nat} (h : a < en) (he : en ≤ xs.length) (hx : xs.length < 1073741824) : atL (rsE xs a en) (nI 0) = atL xs (nI a) := by
  rw [atL_nI (show 0 < (rsE xs a en).length by rw [rsE_len he]; omega) (by rw [rsE_len he]; omega), atL_nI (show a < xs.length by omega) (by omega), rsE_get (by omega), Nat.add_zero]
set_option maxHeartbeats 4000000 in
set_option maxRecDepth 100000 in
theorem k_inFront (l : Launch) (q : ev_T) {j : Nat} {b r0 n0 at_ en : Nat} {xs : List Int32} {ov : Bool} {vs : List Int32} {ws : List Nat} {ns : Nat} {due bz : Bool} {g : mu_T} (hS : Shp g) (hE : EX g b at_ en vs ws ns due bz) (hY : RB g b r0 n0 xs ov) (hn0 : n0 < 1073741824) (hen : en ≤ xs.length) (hae : at_ ≤ en) (hj : j < 256) : Ctr l q M_Ex_inFront 1 [.ref 997, .int (nI j)] (0, 0, g) (fun v w => v = some (va_rf ((frO (nI j) (rsE xs (at_ + 1) en)).map (fun o => 1048600 + o))) ∧ w.2.2 = g) := by
  have hyn := hY.2.1
  refine Ctr.mk (lb := [some (.ref 997), some (.int (nI j))]) (by decide +kernel) (Nat.le_of_ble_eq_true rfl) rfl rfl ?_
  intro pp ee ss mm aa bb mt cd X hrt hlk hnm
  by_cases x0 : j = 40
  · subst x0
    refine v_iload_n X (dk D_Ex_inFront 0 rfl) rfl ?_
    refine v_lookup (off := 51) (tgt := 52) X (dk D_Ex_inFront 1 rfl) (by decide) (by decide +kernel) (by decide) ?_
    refine v_gets (v := .ref 1048622) X (dk D_Ex_inFront 2 rfl) (Or.inl Z_Ex_94) (X.sf.2.1 22 (by decide)).2.2.2.2 ?_
    exact v_aret (r := some 1048622) X hlk hrt (Or.inl ⟨_, rfl⟩) (dk D_Ex_inFront 3 rfl) ⟨by rfl, rfl⟩
  by_cases x1 : j = 43
  · subst x1
    refine v_iload_n X (dk D_Ex_inFront 0 rfl) rfl ?_
    refine v_lookup (off := 55) (tgt := 56) X (dk D_Ex_inFront 1 rfl) (by decide) (by decide +kernel) (by decide) ?_
    refine v_gets (v := .ref 1048618) X (dk D_Ex_inFront 4 rfl) (Or.inl Z_Ex_98) (X.sf.2.1 18 (by decide)).2.2.2.2 ?_
    exact v_aret (r := some 1048618) X hlk hrt (Or.inl ⟨_, rfl⟩) (dk D_Ex_inFront 5 rfl) ⟨by rfl, rfl⟩
  by_cases x2 : j = 45
  · subst x2
    refine v_iload_n X (dk D_Ex_inFront 0 rfl) rfl ?_
    refine v_lookup (off := 59) (tgt := 60) X (dk D_Ex_inFront 1 rfl) (by decide) (by decide +kernel) (by decide) ?_
    refine v_gets (v := .ref 1048619) X (dk D_Ex_inFront 6 rfl) (Or.inl Z_Ex_101) (X.sf.2.1 19 (by decide)).2.2.2.2 ?_
    exact v_aret (r := some 1048619) X hlk hrt (Or.inl ⟨_, rfl⟩) (dk D_Ex_inFront 7 rfl) ⟨by rfl, rfl⟩
  by_cases x3 : j = 126
  · subst x3
    refine v_iload_n X (dk D_Ex_inFront 0 rfl) rfl ?_
    refine v_lookup (off := 63) (tgt := 64) X (dk D_Ex_inFront 1 rfl) (by decide) (by decide +kernel) (by decide) ?_
    refine v_gets (v := .ref 1048620) X (dk D_Ex_inFront 8 rfl) (Or.inl Z_Ex_104) (X.sf.2.1 20 (by decide)).2.2.2.2 ?_
    exact v_aret (r := some 1048620) X hlk hrt (Or.inl ⟨_, rfl⟩) (dk D_Ex_inFront 9 rfl) ⟨by rfl, rfl⟩
  by_cases x5 : j = 33
  · subst x5
    refine v_iload_n X (dk D_Ex_inFront 0 rfl) rfl ?_
    refine v_lookup (off := 67) (tgt := 68) X (dk D_Ex_inFront 1 rfl) (by decide) (by decide +kernel) (by decide) ?_
    refine v_aload_n X (dk D_Ex_inFront 10 rfl) rfl ?_
    refine v_getI X (dk D_Ex_inFront 11 rfl) F_Ex_34 rfl rfl (hS.lt (by decide)) ?_
    refine v_iconst (v := 1) X (dk D_Ex_inFront 12 rfl) (by decide) ?_
    refine v_iadd X (dk D_Ex_inFront 13 rfl) ?_
    rw [hE.2.1, nI_1]
    refine v_aload_n X (dk D_Ex_inFront 14 rfl) rfl ?_
    refine v_getI X (dk D_Ex_inFront 15 rfl) F_Ex_38 rfl rfl (hS.lt (by decide)) ?_
    rw [hE.2.2.1]
    refine v_icmp_ge (tgt := 103) X (dk D_Ex_inFront 16 rfl) (by decide) (fun c78 => ?_) (fun c78 => ?_)
    · refine v_gets (v := .ref 1048621) X (dk D_Ex_inFront 28 rfl) (Or.inl Z_Ex_107) (X.sf.2.1 21 (by decide)).2.2.2.2 ?_
      exact v_aret (r := some 1048621) X hlk hrt (Or.inl ⟨_, rfl⟩) (dk D_Ex_inFront 29 rfl) ⟨by first | (rw [frO_33, rsE_nil ((nI_leI (by omega) (by omega)).mp c78)]; rfl) | (rw [frO_33, if_neg (by rw [atL_rs (show at_ + 1 < en from Decidable.byContradiction (fun e => c78 (nI_le (by omega) (by omega)))) hen (by omega)]; exact c96)]; rfl) | (rw [frO_33, if_pos (by rw [atL_rs (show at_ + 1 < en from Decidable.byContradiction (fun e => c78 (nI_le (by omega) (by omega)))) hen (by omega)]; exact c96)]; rfl) | (rw [frO_33, if_pos (by rw [atL_rs (show at_ + 1 < en from Decidable.byContradiction (fun e => c78 (nI_le (by omega) (by omega)))) hen (by omega)]; exact Decidable.byContradiction c96)]; rfl), rfl⟩
    · refine v_aload_n X (dk D_Ex_inFront 17 rfl) rfl ?_
      refine v_getR X (dk D_Ex_inFront 18 rfl) F_Ex_14 rfl rfl (hS.lt (by decide)) hE.1 ?_
      refine v_aload_n X (dk D_Ex_inFront 19 rfl) rfl ?_
      refine v_getI X (dk D_Ex_inFront 20 rfl) F_Ex_34 rfl rfl (hS.lt (by decide)) ?_
      refine v_iconst (v := 1) X (dk D_Ex_inFront 21 rfl) (by decide) ?_
      refine v_iadd X (dk D_Ex_inFront 22 rfl) ?_
      rw [hE.2.1, nI_1]
      refine v_invV (As := [.int (nI (at_ + 1))]) (st := []) X (k_at l q hY) (dk D_Ex_inFront 23 rfl) G_Ex_41 K_By_at V_By_at hY.1.1 rfl hY.1.2.1 rfl rfl (Nat.le_of_ble_eq_true rfl) (Nat.le_of_ble_eq_true rfl) (Nat.le_of_ble_eq_true rfl) (Nat.le_of_ble_eq_true rfl) (Nat.le_of_ble_eq_true rfl) ?_
      rintro v w ⟨rfl, hw⟩
      rw [hw]
      show Vv _ _ _ _ _ _ _ _ _ _ _ _ _ _ _ [.int (atL xs (nI (at_ + 1)))] (0, 0, g)
      refine v_bipush (v := 61) X (dk D_Ex_inFront 24 rfl) (by decide) ?_
      refine v_icmp_ne (tgt := 103) X (dk D_Ex_inFront 25 rfl) (by decide) (fun c96 => ?_) (fun c96 => ?_)
      · refine v_gets (v := .ref 1048621) X (dk D_Ex_inFront 28 rfl) (Or.inl Z_Ex_107) (X.sf.2.1 21 (by decide)).2.2.2.2 ?_
        exact v_aret (r := some 1048621) X hlk hrt (Or.inl ⟨_, rfl⟩) (dk D_Ex_inFront 29 rfl) ⟨by first | (rw [frO_33, rsE_nil ((nI_leI (by omega) (by omega)).mp c78)]; rfl) | (rw [frO_33, if_neg (by rw [atL_rs (show at_ + 1 < en from Decidable.byContradiction (fun e => c78 (nI_le (by omega) (by omega)))) hen (by omega)]; exact c96)]; rfl) | (rw [frO_33, if_pos (by rw [atL_rs (show at_ + 1 < en from Decidable.byContradiction (fun e => c78 (nI_le (by omega) (by omega)))) hen (by omega)]; exact c96)]; rfl) | (rw [frO_33, if_pos (by rw [atL_rs (show at_ + 1 < en from Decidable.byContradiction (fun e => c78 (nI_le (by omega) (by omega)))) hen (by omega)]; exact Decidable.byContradiction c96)]; rfl), rfl⟩
      · refine v_null X (dk D_Ex_inFront 26 rfl) ?_
        refine v_goto (tgt := 106) X (dk D_Ex_inFront 27 rfl) (by decide) ?_
        exact v_aret (r := none) X hlk hrt (Or.inl ⟨_, rfl⟩) (dk D_Ex_inFront 29 rfl) ⟨by first | (rw [frO_33, rsE_nil ((nI_leI (by omega) (by omega)).mp c78)]; rfl) | (rw [frO_33, if_neg (by rw [atL_rs (show at_ + 1 < en from Decidable.byContradiction (fun e => c78 (nI_le (by omega) (by omega)))) hen (by omega)]; exact c96)]; rfl) | (rw [frO_33, if_pos (by rw [atL_rs (show at_ + 1 < en from Decidable.byContradiction (fun e => c78 (nI_le (by omega) (by omega)))) hen (by omega)]; exact c96)]; rfl) | (rw [frO_33, if_pos (by rw [atL_rs (show at_ + 1 < en from Decidable.byContradiction (fun e => c78 (nI_le (by omega) (by omega)))) hen (by omega)]; exact Decidable.byContradiction c96)]; rfl), rfl⟩
  refine v_iload_n X (dk D_Ex_inFront 0 rfl) rfl ?_
  refine v_lookup (off := 106) (tgt := 107) X (dk D_Ex_inFront 1 rfl) (by decide) (lkp_no j hj x5 x0 x1 x2 x3) (by decide) ?_
  refine v_null X (dk D_Ex_inFront 30 rfl) ?_
  exact v_aret (r := none) X hlk hrt (Or.inl ⟨_, rfl⟩) (dk D_Ex_inFront 31 rfl) ⟨by rw [frO_no j hj x5 x0 x1 x2 x3]; rfl, rfl⟩
