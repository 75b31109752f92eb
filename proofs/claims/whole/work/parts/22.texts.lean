/-! the JDK: texts that stand still -/
def sxl (i : Nat) : Nat := (sx_B.getD i []).length
def sxc (i j : Nat) : Int32 := (sx_B.getD i []).getD j 0
theorem sxl_lt : ∀ i, i < 38 → sxl i < 12 := by decide +kernel
theorem sxc_ok : ∀ i, i < 38 → ∀ j, j < 12 → ((sxc i j &&& 255).toUInt32 % 65536).toInt32 = sxc i j ∧ narrow .char (.int (sxc i j)) = .int (sxc i j) := by decide +kernel
set_option maxHeartbeats 4000000 in
set_option maxRecDepth 100000 in
theorem c_St_coder (l : Launch) (q : ev_T) {i : Nat} {g : mu_T} (hi : i < 38) : Ctr l q M_St_coder 0 [.ref (1048640 + i)] (0, 0, g) (fun v w => v = some (.int 0) ∧ w.2.2 = g) := by

  refine Ctr.mk (lb := [some (.ref (1048640 + i))]) (by decide +kernel) (Nat.le_of_ble_eq_true rfl) rfl rfl ?_
  intro p e s m args below meth c X hrt hlk hnm
  refine v_gets (v := .int 1) X (dk D_St_coder 0 rfl) (Or.inl Z_St_38) X.sf.2.2.2.2.2.2.2.1.1 ?_
  refine v_if_eq (tgt := 13) X (dk D_St_coder 1 rfl) (by decide) (fun c3 => absurd c3 (by decide)) (fun _ => ?_)
  refine v_aload_n X (dk D_St_coder 2 rfl) rfl ?_
  refine v_sget (v := .int 0) X (dk D_St_coder 3 rfl) Z_St_15 (X.sf.2.2.1 i hi).2.1 ?_
  refine v_goto (tgt := 14) X (dk D_St_coder 4 rfl) (by decide) ?_
  exact v_zret X hlk hrt rfl (dk D_St_coder 6 rfl) ⟨rfl, rfl⟩
set_option maxHeartbeats 4000000 in
set_option maxRecDepth 100000 in
theorem c_St_isLatin1 (l : Launch) (q : ev_T) {i : Nat} {g : mu_T} (hi : i < 38) : Ctr l q M_St_isLatin1 0 [.ref (1048640 + i)] (0, 0, g) (fun v w => v = some (.int 1) ∧ w.2.2 = g) := by

  refine Ctr.mk (lb := [some (.ref (1048640 + i))]) (by decide +kernel) (Nat.le_of_ble_eq_true rfl) rfl rfl ?_
  intro p e s m args below meth c X hrt hlk hnm
  refine v_gets (v := .int 1) X (dk D_St_isLatin1 0 rfl) (Or.inl Z_St_38) X.sf.2.2.2.2.2.2.2.1.1 ?_
  refine v_if_eq (tgt := 17) X (dk D_St_isLatin1 1 rfl) (by decide) (fun c3 => absurd c3 (by decide)) (fun _ => ?_)
  refine v_aload_n X (dk D_St_isLatin1 2 rfl) rfl ?_
  refine v_sget (v := .int 0) X (dk D_St_isLatin1 3 rfl) Z_St_15 (X.sf.2.2.1 i hi).2.1 ?_
  refine v_if_ne (tgt := 17) X (dk D_St_isLatin1 4 rfl) (by decide) (fun c10 => absurd c10 (by decide)) (fun _ => ?_)
  refine v_iconst (v := 1) X (dk D_St_isLatin1 5 rfl) (by decide) ?_
  refine v_goto (tgt := 18) X (dk D_St_isLatin1 6 rfl) (by decide) ?_
  exact v_zret X hlk hrt rfl (dk D_St_isLatin1 8 rfl) ⟨rfl, rfl⟩
theorem ML.p {own : String} {idx : Nat} {M : mt_T} (h : ML own idx M) (hn : nstT.all (fun w => !(match w with | .methodLinkNest o i y _ => (o == own && i == idx) && y == M.1 | _ => false)) = true) : Cond.methodLink own idx M.1 ∈ tbG := by
  rcases h with h | ⟨host, h⟩
  · exact h
  · have := List.all_eq_true.mp hn _ h
    simp at this
set_option maxHeartbeats 4000000 in
set_option maxRecDepth 100000 in
theorem c_St_length (l : Launch) (q : ev_T) {i : Nat} {g : mu_T} (hi : i < 38) : Ctr l q M_St_length 1 [.ref (1048640 + i)] (0, 0, g) (fun v w => v = some (.int (nI (sxl i))) ∧ w.2.2 = g) := by

  refine Ctr.mk (lb := [some (.ref (1048640 + i))]) (by decide +kernel) (Nat.le_of_ble_eq_true rfl) rfl rfl ?_
  intro p e s m args below meth c X hrt hlk hnm
  refine v_aload_n X (dk D_St_length 0 rfl) rfl ?_
  refine v_sget (v := .ref (1048700 + i)) X (dk D_St_length 1 rfl) Z_St_9 (X.sf.2.2.1 i hi).2.2.1 ?_
  refine v_salen (v := nI (sxl i)) X (dk D_St_length 2 rfl) (X.sf.2.2.1 i hi).2.2.2 rfl ?_
  refine v_aload_n X (dk D_St_length 3 rfl) rfl ?_
  refine v_invVS (As := []) (st := [.int (nI (sxl i))]) X (c_St_coder l q (g := g) hi) (dk D_St_length 4 rfl) (ML.p G_St_335 (by decide +kernel)) K_St_coder V_St_coder (X.sf.2.2.1 i hi).1 rfl rfl (Nat.le_of_ble_eq_true rfl) (Nat.le_of_ble_eq_true rfl) (Nat.le_of_ble_eq_true rfl) (Nat.le_of_ble_eq_true rfl) (Nat.le_of_ble_eq_true rfl) ?_
  rintro v w ⟨rfl, hw⟩
  rw [hw]
  show Vv _ _ _ _ _ _ _ _ _ _ _ _ _ _ _ [.int 0, .int (nI (sxl i))] (0, 0, g)
  refine v_ishr X (dk D_St_length 5 rfl) ?_
  exact v_iret X hlk hrt (dk D_St_length 6 rfl) ⟨by rw [sb_shr0], rfl⟩
set_option maxHeartbeats 4000000 in
set_option maxRecDepth 100000 in
theorem c_Pr_checkIndex (l : Launch) (q : ev_T) {x y : Int32} {r : Option Nat} {g : mu_T} (h0 : ¬ x < 0) (h1 : x < y) : Ctr l q M_Pr_checkIndex 0 [.int x, .int y, va_rf r] (0, 0, g) (fun v w => v = some (.int x) ∧ w.2.2 = g) := by

  refine Ctr.mk (lb := [some (.int x), some (.int y), some (va_rf r)]) (by decide +kernel) (by cases r <;> exact Nat.le_of_ble_eq_true rfl) (by cases r <;> rfl) rfl ?_
  intro p e s m args below meth c X hrt hlk hnm
  refine v_iload_n X (dk D_Pr_checkIndex 0 rfl) rfl ?_
  refine v_if_lt (tgt := 9) X (dk D_Pr_checkIndex 1 rfl) (by decide) (fun c1 => absurd c1 h0) (fun _ => ?_)
  refine v_iload_n X (dk D_Pr_checkIndex 2 rfl) rfl ?_
  refine v_iload_n X (dk D_Pr_checkIndex 3 rfl) rfl ?_
  refine v_icmp_lt (tgt := 16) X (dk D_Pr_checkIndex 4 rfl) (by decide) (fun _ => ?_) (fun c6 => absurd h1 c6)
  refine v_iload_n X (dk D_Pr_checkIndex 10 rfl) rfl ?_
  exact v_iret X hlk hrt (dk D_Pr_checkIndex 11 rfl) ⟨rfl, rfl⟩
set_option maxHeartbeats 4000000 in
set_option maxRecDepth 100000 in
theorem c_St_checkIndex (l : Launch) (q : ev_T) {x y : Int32} {g : mu_T} (h0 : ¬ x < 0) (h1 : x < y) : Ctr l q M_St_checkIndex 1 [.int x, .int y] (0, 0, g) (fun v w => v = none ∧ w.2.2 = g) := by

  refine Ctr.mk (lb := [some (.int x), some (.int y)]) (by decide +kernel) (Nat.le_of_ble_eq_true rfl) rfl rfl ?_
  intro p e s m args below meth c X hrt hlk hnm
  refine v_iload_n X (dk D_St_checkIndex 0 rfl) rfl ?_
  refine v_iload_n X (dk D_St_checkIndex 1 rfl) rfl ?_
  obtain ⟨r, hr⟩ : ∃ r : Option Nat, va_Z "jdk/internal/util/Preconditions" "SIOOBE_FORMATTER" "Ljava/util/function/BiFunction;" (ev_v q (va_rf r)) (fun a => q.1 ≤ a) s s.heap := by
    rcases X.sf.2.2.2.2.2.2.2.1.2 with z | z
    · exact ⟨none, z⟩
    · exact ⟨some 1048754, z⟩
  refine v_gets (v := va_rf r) X (dk D_St_checkIndex 2 rfl) (Or.inl Z_St_1053) hr ?_
  refine v_invS (As := [.int x, .int y, va_rf r]) (st := []) X (c_Pr_checkIndex l q (g := g) (r := r) h0 h1) (dk D_St_checkIndex 3 rfl) G_St_1059 K_Pr_checkIndex S_Pr_checkIndex rfl rfl (Nat.le_of_ble_eq_true rfl) (Nat.le_of_ble_eq_true rfl) (Nat.le_of_ble_eq_true rfl) (Nat.le_of_ble_eq_true rfl) (Nat.le_of_ble_eq_true rfl) ?_
  rintro v w ⟨rfl, hw⟩
  rw [hw]
  show Vv _ _ _ _ _ _ _ _ _ _ _ _ _ _ _ [.int x] (0, 0, g)
  refine v_pop X (dk D_St_checkIndex 4 rfl) rfl ?_
  exact v_vret X hlk hrt (dk D_St_checkIndex 5 rfl) ⟨rfl, rfl⟩
set_option maxHeartbeats 4000000 in
set_option maxRecDepth 100000 in
theorem c_Sl_charAt (l : Launch) (q : ev_T) {i j : Nat} {g : mu_T} (hi : i < 38) (hj : j < sxl i) : Ctr l q M_Sl_charAt 2 [.ref (1048700 + i), .int (nI j)] (0, 0, g) (fun v w => v = some (.int (sxc i j)) ∧ w.2.2 = g) := by
  have hl := sxl_lt i hi
  refine Ctr.mk (lb := [some (.ref (1048700 + i)), some (.int (nI j))]) (by decide +kernel) (Nat.le_of_ble_eq_true rfl) rfl rfl ?_
  intro p e s m args below meth c X hrt hlk hnm
  refine v_iload_n X (dk D_Sl_charAt 0 rfl) rfl ?_
  refine v_aload_n X (dk D_Sl_charAt 1 rfl) rfl ?_
  refine v_salen (v := nI (sxl i)) X (dk D_Sl_charAt 2 rfl) (X.sf.2.2.1 i hi).2.2.2 rfl ?_
  refine v_invS (As := [.int (nI j), .int (nI (sxl i))]) (st := []) X (c_St_checkIndex l q (g := g) (nI_pos (by omega)) (nI_lt hj (by omega))) (dk D_Sl_charAt 3 rfl) G_Sl_9 K_St_checkIndex S_St_checkIndex rfl rfl (Nat.le_of_ble_eq_true rfl) (Nat.le_of_ble_eq_true rfl) (Nat.le_of_ble_eq_true rfl) (Nat.le_of_ble_eq_true rfl) (Nat.le_of_ble_eq_true rfl) ?_
  rintro v w ⟨rfl, hw⟩
  rw [hw]
  show Vv _ _ _ _ _ _ _ _ _ _ _ _ _ _ _ [] (0, 0, g)
  refine v_aload_n X (dk D_Sl_charAt 4 rfl) rfl ?_
  refine v_iload_n X (dk D_Sl_charAt 5 rfl) rfl ?_
  refine v_sbald (v := .int (sxc i j)) X (dk D_Sl_charAt 6 rfl) (X.sf.2.2.1 i hi).2.2.2 (show vp_in (nI j) (sxl i) from vp_in_nI hj (by omega)) (by rw [nI_clamp (by omega)]; rfl) ?_
  refine v_sipush (v := 255) X (dk D_Sl_charAt 7 rfl) (by decide) ?_
  refine v_iand X (dk D_Sl_charAt 8 rfl) ?_
  refine v_i2c X (dk D_Sl_charAt 9 rfl) (sxc_ok i hi j (by omega)).1 ?_
  exact v_zret X hlk hrt (sxc_ok i hi j (by omega)).2 (dk D_Sl_charAt 10 rfl) ⟨rfl, rfl⟩
set_option maxHeartbeats 4000000 in
set_option maxRecDepth 100000 in
theorem c_St_charAt (l : Launch) (q : ev_T) {i j : Nat} {g : mu_T} (hi : i < 38) (hj : j < sxl i) : Ctr l q M_St_charAt 3 [.ref (1048640 + i), .int (nI j)] (0, 0, g) (fun v w => v = some (.int (sxc i j)) ∧ w.2.2 = g) := by
  have hl := sxl_lt i hi
  refine Ctr.mk (lb := [some (.ref (1048640 + i)), some (.int (nI j))]) (by decide +kernel) (Nat.le_of_ble_eq_true rfl) rfl rfl ?_
  intro p e s m args below meth c X hrt hlk hnm
  refine v_aload_n X (dk D_St_charAt 0 rfl) rfl ?_
  refine v_invVS (As := []) (st := []) X (c_St_isLatin1 l q (g := g) hi) (dk D_St_charAt 1 rfl) (ML.p G_St_492 (by decide +kernel)) K_St_isLatin1 V_St_isLatin1 (X.sf.2.2.1 i hi).1 rfl rfl (Nat.le_of_ble_eq_true rfl) (Nat.le_of_ble_eq_true rfl) (Nat.le_of_ble_eq_true rfl) (Nat.le_of_ble_eq_true rfl) (Nat.le_of_ble_eq_true rfl) ?_
  rintro v w ⟨rfl, hw⟩
  rw [hw]
  show Vv _ _ _ _ _ _ _ _ _ _ _ _ _ _ _ [.int 1] (0, 0, g)
  refine v_if_eq (tgt := 16) X (dk D_St_charAt 2 rfl) (by decide) (fun c4 => absurd c4 (by decide)) (fun _ => ?_)
  refine v_aload_n X (dk D_St_charAt 3 rfl) rfl ?_
  refine v_sget (v := .ref (1048700 + i)) X (dk D_St_charAt 4 rfl) Z_St_9 (X.sf.2.2.1 i hi).2.2.1 ?_
  refine v_iload_n X (dk D_St_charAt 5 rfl) rfl ?_
  refine v_invS (As := [.ref (1048700 + i), .int (nI j)]) (st := []) X (c_Sl_charAt l q (g := g) hi hj) (dk D_St_charAt 6 rfl) G_St_495 K_Sl_charAt S_Sl_charAt rfl rfl (Nat.le_of_ble_eq_true rfl) (Nat.le_of_ble_eq_true rfl) (Nat.le_of_ble_eq_true rfl) (Nat.le_of_ble_eq_true rfl) (Nat.le_of_ble_eq_true rfl) ?_
  rintro v w ⟨rfl, hw⟩
  rw [hw]
  show Vv _ _ _ _ _ _ _ _ _ _ _ _ _ _ _ [.int (sxc i j)] (0, 0, g)
  exact v_zret X hlk hrt (sxc_ok i hi j (by omega)).2 (dk D_St_charAt 7 rfl) ⟨rfl, rfl⟩
