/-! Meanings: addBuiltIn -/
theorem MS_setB {g : mu_T} {bk : Nat → List Nat} {sp : List Nat} {N T : Nat → List Int32} {B : Nat → Option Nat} {df db i : Nat} {x : Option Nat} (h : MS g bk sp N T B df db) (hi : i < 317) : MS (xR g (31 + 3 * i) 2 x) bk sp N T (va_up B i x) df db := by
  obtain ⟨h1, h2, ⟨ch, fl, fr, hW, hN⟩, h4, h5, h6, h7, h8, h9, h10, h11⟩ := h
  have z : sm g (xR g (31 + 3 * i) 2 x) [31 + 3 * i] := (sm.rf g _).xR (by simp)
  refine ⟨h1, h2, ⟨ch, fl, fr, hW.sm z (by simp; omega) (by simp; omega) (fun a ha => by obtain ⟨y, hy, e⟩ := SM_of ha; simp; omega), fun j hj => hN j hj⟩, fun j hj => ?_, ?_, h6, fun j hj => ?_, h8, h9, h10, h11⟩
  · rw [gR_na (by omega)]
    exact rlk_same (fun y _ => gR_nk (by decide)) (h4 j hj)
  · rw [gR_na (by omega)]
    exact rlk_same (fun y _ => gR_nk (by decide)) h5
  · by_cases e : j = i
    · subst e; rw [up_eq, gR_eq]
    · rw [up_ne e, gR_na (by omega)]; exact h7 j hj
set_option maxHeartbeats 4000000 in
set_option maxRecDepth 100000 in
theorem k_addBuiltIn (l : Launch) (q : ev_T) {bk : Nat → List Nat} {i j k : Nat} {sp : List Nat} {N T : Nat → List Int32} {B : Nat → Option Nat} {df db : Nat} {b r0 n0 : Nat} {xs : List Int32} {ov : Bool} {g : mu_T} (hS : Shp g) (hM : MS g bk (i :: sp) N T B df db) (hY : RB g b r0 n0 xs ov) (hn0 : n0 < 1073741824) (hb : b < 25) (hr : r0 < 25) (hxb : ∀ x ∈ xs, isByte x) (hk1 : k < 128) (hk2 : (hsh xs) &&& 127 = nI k) (hrm : byM N T + xs.length ≤ 16512) : Ctr l q M_Ms_addBuiltIn 3 [.ref 25, .ref (1048576 + j), .ref b] (0, 0, g) (fun v w => v = none ∧ sm g w.2.2 (UU i) ∧ MS w.2.2 (va_up bk k (i :: bk k)) sp (va_up N i xs) T (va_up B i (some (1048576 + j))) df db) := by
  have h8 := hM.2.2.2.2.2.2.2.1
  have hi := (h8 i (List.mem_cons_self ..)).1
  refine Ctr.mk (lb := [some (.ref 25), some (.ref (1048576 + j)), some (.ref b), none]) (by decide +kernel) (Nat.le_of_ble_eq_true rfl) rfl rfl ?_
  intro pp ee ss mm aa bb mt cd X hrt hlk hnm
  refine v_aload_n X (dk D_Ms_addBuiltIn 0 rfl) rfl ?_
  refine v_aload_n X (dk D_Ms_addBuiltIn 1 rfl) rfl ?_
  refine v_iconst (v := nI 0) X (dk D_Ms_addBuiltIn 2 rfl) (by decide) ?_
  refine v_aload_n X (dk D_Ms_addBuiltIn 3 rfl) rfl ?_
  refine v_getI X (dk D_Ms_addBuiltIn 4 rfl) F_Ms_97 rfl hY.1.1 hY.1.2.1 ?_
  rw [hY.2.2.1]
  refine v_invV (As := [.ref b, .int (nI 0), .int (nI xs.length)]) (st := []) X (k_addOnTop l q (f := 0) (n := xs.length) hS hM hY hn0 hb hr (by omega) hxb hk1 (by rw [List.drop_zero, List.take_length]; exact hk2) hrm) (dk D_Ms_addBuiltIn 5 rfl) G_Ms_98 K_Ms_addOnTop V_Ms_addOnTop rfl rfl (hS.lt (by decide)) rfl rfl (Nat.le_of_ble_eq_true rfl) (Nat.le_of_ble_eq_true rfl) (Nat.le_of_ble_eq_true rfl) (Nat.le_of_ble_eq_true rfl) (Nat.le_of_ble_eq_true rfl) ?_
  rintro v w ⟨rfl, y1, y2⟩
  rw [List.drop_zero, List.take_length] at y2
  show Vv _ _ _ _ _ _ _ _ _ _ _ _ _ _ _ [.ref (31 + 3 * i)] (0, 0, w.2.2)
  refine v_astore_n (lb := [some (.ref 25), some (.ref (1048576 + j)), some (.ref b), some (.ref (31 + 3 * i))]) X (dk D_Ms_addBuiltIn 6 rfl) (by decide) rfl ?_
  refine v_aload_n X (dk D_Ms_addBuiltIn 7 rfl) rfl ?_
  refine v_ifnull X (dk D_Ms_addBuiltIn 8 rfl) ?_
  refine v_aload_n X (dk D_Ms_addBuiltIn 9 rfl) rfl ?_
  refine v_aload_n X (dk D_Ms_addBuiltIn 10 rfl) rfl ?_
  refine v_putR (r := some (1048576 + j)) X (dk D_Ms_addBuiltIn 11 rfl) F_Ms_102 CK_Me rfl (kdM i hi).1 ((hS.sm y1).lt (by omega)) ⟨_, rfl⟩ ?_
  exact v_vret X hlk hrt (dk D_Ms_addBuiltIn 12 rfl) ⟨rfl, y1.xR (by simp [UU]), MS_setB y2 hi⟩
