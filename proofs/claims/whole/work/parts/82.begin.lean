/-! a run begins and ends -/
/-- the mill between calls: the text, what came out -/
def MI (g : mu_T) (T O : List Int32) : Prop := Shp g ∧ DR g ∧ MR g ∧ RB g 1 2 32768 T false ∧ (∃ o, RB g 3 4 32768 O o) ∧ (∃ F, RE g F) ∧ (∃ a o, RB g 8 9 4 a o) ∧ (∃ a o, RB g 10 11 4 a o) ∧ (∃ a o, RB g 12 13 32768 a o) ∧ ∃ a o, RB g 18 19 16384 a o
def biP : Nat → Mng
  | 0 => fun _ => []
  | i + 1 => pu (biP i) (sx_B.getD i []) ((some (1048576 + i), []) :: biP i (sx_B.getD i []))
def bbS : Nat → Nat
  | 0 => 0
  | i + 1 => bbS i + (sx_B.getD i []).length
theorem bbS_le : ∀ i, i ≤ 17 → bbS i ≤ 97 ∧ (i < 17 → bbS i + (sx_B.getD i []).length ≤ 97) := by decide +kernel
theorem biP_ok : ∀ i, i ≤ 17 → OKP (biP i)
  | 0, _ => fun nm e he => absurd he List.not_mem_nil
  | i + 1, h => OKP_pu (biP_ok i (by omega)) (fun e he c hc => by
      rcases List.mem_cons.mp he with he | he
      · rw [he] at hc; cases hc; exact ⟨i, by omega, rfl⟩
      · exact biP_ok i (by omega) _ e he c hc)
def S0 (T : List Int32) (fu : Nat) : Mst := ((T, T.length, fu, 0), ([96], [39]), ([], false), (biP 17, 0, 0), (0, fun _ => []))
def UB : List Nat := 5 :: 6 :: MA
theorem UB_mem {a : Nat} : a ∈ UB ↔ a = 5 ∨ a = 6 ∨ (25 ≤ a ∧ a < 982 ∧ a ≠ 30) := by
  rw [UB, List.mem_cons, List.mem_cons, MA_mem]
def UR : List Nat := 3 :: RN
theorem UR_mem {a : Nat} : a ∈ UR ↔ a = 3 ∨ (5 ≤ a ∧ a < 1003) := by
  rw [UR, List.mem_cons, RN_mem]
theorem sxb : ∀ i, i < 17 → ∀ x ∈ sx_B.getD i [], isByte x := by
  have h : ∀ i, i < 17 → ∀ x ∈ sx_B.getD i [], x.toInt8.toInt32 = x := by decide +kernel
  exact h
theorem MPx.sm {g k : mu_T} {U : List Nat} {P : Mng} {df db nb bb : Nat} (h : MPx g P df db nb bb) (z : sm g k U) (hU : ∀ a, 25 ≤ a → a < 982 → a ∉ U) : MPx k P df db nb bb := by
  obtain ⟨bk, sp, N, T, B, h1, h2⟩ := h
  exact ⟨bk, sp, N, T, B, h1.sm z hU, h2⟩
set_option maxHeartbeats 4000000 in
set_option maxRecDepth 100000 in
theorem k_beginAnew (l : Launch) (q : ev_T) {T O : List Int32} {fu : Nat} {g : mu_T} (hM : MI g T O) (hfu : fu < 2147483647) : Ctr l q M_Mi_beginAnew 5 [.ref 0, .int (nI fu)] (0, 0, g) (fun v w => v = none ∧ sm g w.2.2 UR ∧ MW w.2.2 fu (S0 T fu) ∧ RB w.2.2 3 4 32768 [] false) := by
  obtain ⟨hS, hDR, hMR, hT, ⟨o3, hB3⟩, ⟨F0, hR0⟩, ⟨qa, oo, hO⟩, ⟨qb, oc, hQ⟩, ⟨tx, ot, hX⟩, ⟨hx, oh, hH⟩⟩ := hM
  refine Ctr.mk (lb := [some (.ref 0), some (.int (nI fu)), none]) (by decide +kernel) (Nat.le_of_ble_eq_true rfl) rfl rfl ?_
  intro pp ee ss mm aa bb mt cd X hrt hlk hnm
  refine v_inv (fun hBB _ => ?_)
  refine v_aload_n X (dk D_Mi_beginAnew 0 rfl) rfl ?_
  refine v_getF X (dk D_Mi_beginAnew 1 rfl) F_Mi_21 rfl rfl (hS.lt (by decide)) (hS.2 0 1) ?_
  refine v_iconst (v := 0) X (dk D_Mi_beginAnew 2 rfl) (by decide) ?_
  refine v_invV (As := [.int 0]) (st := []) X (k_cut0 l q hB3) (dk D_Mi_beginAnew 3 rfl) G_Mi_77 K_By_cut V_By_cut rfl rfl (hS.lt (by decide)) rfl rfl (Nat.le_of_ble_eq_true rfl) (Nat.le_of_ble_eq_true rfl) (Nat.le_of_ble_eq_true rfl) (Nat.le_of_ble_eq_true rfl) (Nat.le_of_ble_eq_true rfl) ?_
  rintro v w1 ⟨rfl, a1, a2⟩
  have S1 := hS.sm a1
  show Vv _ _ _ _ _ _ _ _ _ _ _ _ _ _ _ [] (0, 0, w1.2.2)
  refine v_aload_n X (dk D_Mi_beginAnew 4 rfl) rfl ?_
  refine v_getF X (dk D_Mi_beginAnew 5 rfl) F_Mi_30 rfl rfl (S1.lt (by decide)) (S1.2 0 3) ?_
  refine v_aload_n X (dk D_Mi_beginAnew 6 rfl) rfl ?_
  refine v_getF X (dk D_Mi_beginAnew 7 rfl) F_Mi_17 rfl rfl (S1.lt (by decide)) (S1.2 0 0) ?_
  refine v_iload_n X (dk D_Mi_beginAnew 8 rfl) rfl ?_
  refine v_invV (As := [.ref 1, .int (nI fu)]) (st := []) X (k_In_begin l q S1 (hT.sm a1 (by decide) (by decide)) (RB_byte hBB hT) hfu (hO.sm a1 (by decide) (by decide)) (hQ.sm a1 (by decide) (by decide))) (dk D_Mi_beginAnew 9 rfl) G_Mi_123 K_In_begin V_In_begin rfl rfl (S1.lt (by decide)) rfl rfl (Nat.le_of_ble_eq_true rfl) (Nat.le_of_ble_eq_true rfl) (Nat.le_of_ble_eq_true rfl) (Nat.le_of_ble_eq_true rfl) (Nat.le_of_ble_eq_true rfl) ?_
  rintro v w2 ⟨rfl, b1, b2, b3, b4⟩
  have z2 := a1.tr b1 (U := [3, 7, 8, 9, 10, 11]) (by simp) (by simp)
  have S2 := hS.sm z2
  show Vv _ _ _ _ _ _ _ _ _ _ _ _ _ _ _ [] (0, 0, w2.2.2)
  refine v_aload_n X (dk D_Mi_beginAnew 10 rfl) rfl ?_
  refine v_getF X (dk D_Mi_beginAnew 11 rfl) F_Mi_37 rfl rfl (S2.lt (by decide)) (S2.2 0 4) ?_
  refine v_invV (As := []) (st := []) X (k_Ca_forget l q S2 (hH.sm z2 (by decide) (by decide))) (dk D_Mi_beginAnew 12 rfl) G_Mi_127 K_Ca_forget V_Ca_forget rfl rfl (S2.lt (by decide)) rfl rfl (Nat.le_of_ble_eq_true rfl) (Nat.le_of_ble_eq_true rfl) (Nat.le_of_ble_eq_true rfl) (Nat.le_of_ble_eq_true rfl) (Nat.le_of_ble_eq_true rfl) ?_
  rintro v w3 ⟨rfl, c1, c2⟩
  have z3 := z2.tr c1 (U := UR) (fun a h => UR_mem.mpr (by simp at h; omega)) (fun a h => UR_mem.mpr (by simp [CS] at h; omega))
  have S3 := hS.sm z3
  show Vv _ _ _ _ _ _ _ _ _ _ _ _ _ _ _ [] (0, 0, w3.2.2)
  refine v_aload_n X (dk D_Mi_beginAnew 13 rfl) rfl ?_
  refine v_getF X (dk D_Mi_beginAnew 14 rfl) F_Mi_51 rfl rfl (S3.lt (by decide)) (S3.2 0 6) ?_
  refine v_invV (As := []) (st := []) X (k_Di_forget l q S3 ((hDR.sm z2 (by decide)).sm c1 (by decide))) (dk D_Mi_beginAnew 15 rfl) G_Mi_130 K_Di_forget V_Di_forget rfl rfl (S3.lt (by decide)) rfl rfl (Nat.le_of_ble_eq_true rfl) (Nat.le_of_ble_eq_true rfl) (Nat.le_of_ble_eq_true rfl) (Nat.le_of_ble_eq_true rfl) (Nat.le_of_ble_eq_true rfl) ?_
  rintro v w4 ⟨rfl, d1, d2⟩
  have z4 := z3.tr d1 (U := UR) (fun _ h => h) (fun a h => UR_mem.mpr (by simp [DS] at h; omega))
  have S4 := hS.sm z4
  have R4 : MR w4.2.2 := ((hMR.sm z2 (by decide)).sm c1 (by decide)).sm d1 (by decide)
  show Vv _ _ _ _ _ _ _ _ _ _ _ _ _ _ _ [] (0, 0, w4.2.2)
  refine v_aload_n X (dk D_Mi_beginAnew 16 rfl) rfl ?_
  refine v_getF X (dk D_Mi_beginAnew 17 rfl) F_Mi_44 rfl rfl (S4.lt (by decide)) (S4.2 0 5) ?_
  refine v_invV (As := []) (st := []) X (k_forgetM l q S4 R4) (dk D_Mi_beginAnew 18 rfl) G_Mi_131 K_Ms_forget V_Ms_forget rfl rfl (S4.lt (by decide)) rfl rfl (Nat.le_of_ble_eq_true rfl) (Nat.le_of_ble_eq_true rfl) (Nat.le_of_ble_eq_true rfl) (Nat.le_of_ble_eq_true rfl) (Nat.le_of_ble_eq_true rfl) ?_
  rintro v w5 ⟨rfl, e1, e2⟩
  have z5 := z4.tr e1 (U := UR) (fun _ h => h) (fun a h => UR_mem.mpr (by have := MA_mem.mp h; omega))
  have S5 := hS.sm z5
  have hR5 : RE w5.2.2 F0 := ((((hR0.sm a1 (by decide) (by decide)).sm b1 (by decide) (by decide)).sm c1 (by decide) (by decide)).sm d1 (by decide) (by decide)).sm e1 (by rw [MA_mem]; omega) (by rw [MA_mem]; omega)
  have fin : ∀ (u : mu_T), sm w5.2.2 u UB → ∀ {i : Nat}, MPx u (biP i) 0 0 i (bbS i) → (∃ F, RE u F) → i = 17 → (none : Option Value) = none ∧ sm g u UR ∧ MW u fu (S0 T fu) ∧ RB u 3 4 32768 [] false := by
    intro u zu i hPu hRu hi
    subst hi
    have zz := (e1.tr zu (U := UB) (fun a h => UB_mem.mpr (by have := MA_mem.mp h; omega)) (fun _ h => h))
    refine ⟨rfl, z5.tr zu (U := UR) (fun _ h => h) (fun a h => UR_mem.mpr (by have := UB_mem.mp h; omega)), ⟨S5.sm zu, ?_, ?_, ?_, ⟨false, ?_⟩, ⟨false, ?_⟩, ?_, ?_, ?_, hRu, ?_⟩, ?_⟩
    · exact (((hDR.sm z2 (by decide)).sm c1 (by decide)).sm d1 (by decide)).sm zz (by rw [UB_mem]; omega)
    · exact R4.sm zz (by rw [UB_mem]; omega)
    · exact ((b2.sm c1 (by decide) (by decide) (by decide) (by decide)).sm d1 (by decide) (by decide) (by decide) (by decide)).sm zz (by rw [UB_mem]; omega) (by rw [UB_mem]; omega) (by rw [UB_mem]; omega) (by rw [UB_mem]; omega)
    · exact ((b3.sm c1 (by decide) (by decide)).sm d1 (by decide) (by decide)).sm zz (by rw [UB_mem]; omega) (by rw [UB_mem]; omega)
    · exact ((b4.sm c1 (by decide) (by decide)).sm d1 (by decide) (by decide)).sm zz (by rw [UB_mem]; omega) (by rw [UB_mem]; omega)
    · exact (c2.sm d1 (by decide)).sm zz (fun a h => by rw [UB_mem]; simp [CS] at h; omega)
    · exact MPx.mp hPu (by decide) (by decide +kernel) (Nat.zero_le _) (Nat.zero_le _)
    · exact d2.sm zz (fun a h => by rw [UB_mem]; simp [DS] at h; omega)
    · exact ⟨tx, ot, (((hX.sm z2 (by decide) (by decide)).sm c1 (by decide) (by decide)).sm d1 (by decide) (by decide)).sm zz (by rw [UB_mem]; omega) (by rw [UB_mem]; omega)⟩
    · exact (((a2.sm b1 (by decide) (by decide)).sm c1 (by decide) (by decide)).sm d1 (by decide) (by decide)).sm zz (by rw [UB_mem]; omega) (by rw [UB_mem]; omega)
  have loop : ∀ (d i : Nat) (u : mu_T), i + d = 17 → sm w5.2.2 u UB → MPx u (biP i) 0 0 i (bbS i) → (∃ F, RE u F) → Vv pp l ee (rmT 5 0 0) ss mm aa bb mt cd 3 q (MQ bb (Qw q (fun v w => v = none ∧ sm g w.2.2 UR ∧ MW w.2.2 fu (S0 T fu) ∧ RB w.2.2 3 4 32768 [] false)) aa ss 0 0 (fun a => q.1 ≤ a)) 43 [some (.ref 0), some (.int (nI fu)), some (.int (nI i))] [] (0, 0, u) := by
    intro d
    induction d with
    | zero =>
      intro i u hid zu hPu hRu
      have hSu := S5.sm zu
      refine v_iload_n X (dk D_Mi_beginAnew 21 rfl) rfl ?_
      refine v_gets (v := .ref 1048750) X (dk D_Mi_beginAnew 22 rfl) (Or.inl Z_Mi_132) X.sf.2.2.2.1.1 ?_
      refine v_salen (v := nI 17) X (dk D_Mi_beginAnew 23 rfl) X.sf.2.2.2.1.2 rfl ?_
      refine v_icmp_ge (tgt := 96) X (dk D_Mi_beginAnew 24 rfl) (by decide) (fun _ => ?_) (fun c48 => absurd (nI_le (a := 17) (by omega) (by omega)) c48)
      exact v_vret X hlk hrt (dk D_Mi_beginAnew 46 rfl) (fin u zu hPu hRu (by omega))
    | succ d ih =>
      intro i u hid zu hPu hRu
      have hSu := S5.sm zu
      refine v_iload_n X (dk D_Mi_beginAnew 21 rfl) rfl ?_
      refine v_gets (v := .ref 1048750) X (dk D_Mi_beginAnew 22 rfl) (Or.inl Z_Mi_132) X.sf.2.2.2.1.1 ?_
      refine v_salen (v := nI 17) X (dk D_Mi_beginAnew 23 rfl) X.sf.2.2.2.1.2 rfl ?_
      refine v_icmp_ge (tgt := 96) X (dk D_Mi_beginAnew 24 rfl) (by decide) (fun c48 => absurd c48 (nI_ge (b := 17) (by omega) (by omega))) (fun _ => ?_)
      refine v_aload_n X (dk D_Mi_beginAnew 25 rfl) rfl ?_
      refine v_getF X (dk D_Mi_beginAnew 26 rfl) F_Mi_24 rfl rfl (hSu.lt (by decide)) (hSu.2 0 2) ?_
      refine v_iconst (v := 0) X (dk D_Mi_beginAnew 27 rfl) (by decide) ?_
      obtain ⟨F, xs0, ov0, B0, -⟩ := hRu
      refine v_invV (As := [.int 0]) (st := []) X (k_cut0 l q B0) (dk D_Mi_beginAnew 28 rfl) G_Mi_77 K_By_cut V_By_cut rfl rfl (hSu.lt (by decide)) rfl rfl (Nat.le_of_ble_eq_true rfl) (Nat.le_of_ble_eq_true rfl) (Nat.le_of_ble_eq_true rfl) (Nat.le_of_ble_eq_true rfl) (Nat.le_of_ble_eq_true rfl) ?_
      rintro v w1 ⟨rfl, a1, a2⟩
      have S1 := hSu.sm a1
      show Vv _ _ _ _ _ _ _ _ _ _ _ _ _ _ _ [] (0, 0, w1.2.2)
      refine v_aload_n X (dk D_Mi_beginAnew 29 rfl) rfl ?_
      refine v_getF X (dk D_Mi_beginAnew 30 rfl) F_Mi_24 rfl rfl (S1.lt (by decide)) (S1.2 0 2) ?_
      refine v_gets (v := .ref 1048750) X (dk D_Mi_beginAnew 31 rfl) (Or.inl Z_Mi_132) X.sf.2.2.2.1.1 ?_
      refine v_iload_n X (dk D_Mi_beginAnew 32 rfl) rfl ?_
      refine v_saald (v := .ref (1048576 + i)) X (dk D_Mi_beginAnew 33 rfl) X.sf.2.2.2.1.2 (vp_in_nI (show i < 17 by omega) (by decide)) (by rw [nI_clamp (by omega)]; rfl) ?_
      refine v_sget (v := .ref (1048640 + i)) X (dk D_Mi_beginAnew 34 rfl) Z_Mi_136 (X.sf.1 i (by omega)).2.2.2 ?_
      refine v_invV (As := [.ref (1048640 + i)]) (st := []) X (k_addText l q (i := i) a2 (by omega)) (dk D_Mi_beginAnew 35 rfl) G_Mi_142 K_By_addText V_By_addText rfl rfl (S1.lt (by decide)) rfl rfl (Nat.le_of_ble_eq_true rfl) (Nat.le_of_ble_eq_true rfl) (Nat.le_of_ble_eq_true rfl) (Nat.le_of_ble_eq_true rfl) (Nat.le_of_ble_eq_true rfl) ?_
      rintro v w2 ⟨rfl, b1, b2⟩
      rw [adL_in 32768 (sx_B.getD i []) [] (by rw [List.length_nil]; have := (bbS_le i (by omega)).2 (by omega); omega), List.nil_append] at b2
      have b2 : RB w2.2.2 5 6 32768 (sx_B.getD i []) false := b2
      have S2 := S1.sm b1
      have z2 := a1.tr b1 (U := [5, 6]) (by simp) (by simp)
      show Vv _ _ _ _ _ _ _ _ _ _ _ _ _ _ _ [] (0, 0, w2.2.2)
      refine v_aload_n X (dk D_Mi_beginAnew 36 rfl) rfl ?_
      refine v_getF X (dk D_Mi_beginAnew 37 rfl) F_Mi_44 rfl rfl (S2.lt (by decide)) (S2.2 0 5) ?_
      refine v_gets (v := .ref 1048750) X (dk D_Mi_beginAnew 38 rfl) (Or.inl Z_Mi_132) X.sf.2.2.2.1.1 ?_
      refine v_iload_n X (dk D_Mi_beginAnew 39 rfl) rfl ?_
      refine v_saald (v := .ref (1048576 + i)) X (dk D_Mi_beginAnew 40 rfl) X.sf.2.2.2.1.2 (vp_in_nI (show i < 17 by omega) (by decide)) (by rw [nI_clamp (by omega)]; rfl) ?_
      refine v_aload_n X (dk D_Mi_beginAnew 41 rfl) rfl ?_
      refine v_getF X (dk D_Mi_beginAnew 42 rfl) F_Mi_24 rfl rfl (S2.lt (by decide)) (S2.2 0 2) ?_
      refine v_invV (As := [.ref (1048576 + i), .ref 5]) (st := []) X (k_addBuiltInP l q (j := i) S2 (show MPx w2.2.2 (biP i) 0 0 i (bbS i) from MPx.sm hPu z2 (M25 [5, 6] (by decide))) (by omega) (by have := (bbS_le i (by omega)).2 (by omega); omega) b2 (by decide) (by decide) (by decide) (sxb i (by omega))) (dk D_Mi_beginAnew 43 rfl) G_Mi_146 K_Ms_addBuiltIn V_Ms_addBuiltIn rfl rfl (S2.lt (by decide)) rfl rfl (Nat.le_of_ble_eq_true rfl) (Nat.le_of_ble_eq_true rfl) (Nat.le_of_ble_eq_true rfl) (Nat.le_of_ble_eq_true rfl) (Nat.le_of_ble_eq_true rfl) ?_
      rintro v w3 ⟨rfl, c1, c2⟩
      show Vv _ _ _ _ _ _ _ _ _ _ _ _ _ _ _ [] (0, 0, w3.2.2)
      refine v_iinc (v := nI (i + 1)) (lb := [some (.ref 0), some (.int (nI fu)), some (.int (nI (i + 1)))]) X (dk D_Mi_beginAnew 44 rfl) rfl (nI_1 i) (by decide) rfl ?_
      refine v_goto (tgt := 43) X (dk D_Mi_beginAnew 45 rfl) (by decide) ?_
      exact ih (i + 1) w3.2.2 (by omega) ((zu.tr z2 (U := UB) (fun _ h => h) (by simp [UB])).tr c1 (U := UB) (fun _ h => h) (fun a h => UB_mem.mpr (by have := MA_mem.mp h; omega))) c2 ⟨_, (sx_B.getD i []), false, b2.sm c1 (by rw [MA_mem]; omega) (by rw [MA_mem]; omega), Or.inl ⟨rfl, rfl⟩, sxb i (by omega)⟩
  show Vv _ _ _ _ _ _ _ _ _ _ _ _ _ _ _ [] (0, 0, w5.2.2)
  refine v_iconst (v := nI 0) X (dk D_Mi_beginAnew 19 rfl) (by decide) ?_
  refine v_istore_n (lb := [some (.ref 0), some (.int (nI fu)), some (.int (nI 0))]) X (dk D_Mi_beginAnew 20 rfl) (by decide) rfl ?_
  exact loop 17 0 w5.2.2 (by omega) (sm.rf _ _) e2.mpx ⟨F0, hR5⟩
set_option maxHeartbeats 4000000 in
set_option maxRecDepth 100000 in
theorem k_finish (l : Launch) (q : ev_T) {e : Int32} {fu : Nat} {S : Mst} {g : mu_T} (hW : MW g fu S) (hB : RB g 3 4 32768 [] false) : Ctr l q M_Mi_finish 2 [.ref 0, .int e] (0, 0, g) (fun v w => v = none ∧ sm g w.2.2 [0, 3, 4] ∧ gI w.2.2 0 9 = (if e = 0 then 0 else if e = 32 then gI g 7 4 else nI (S.1.2.2.2 + 1)) ∧ RB w.2.2 3 4 32768 (if e = 0 then catX S.2.2.2.2.2 10 else []) false) := by
  obtain ⟨hS, hDR, hMR, hI, -, -, hC, hP, hD, -, -⟩ := id hW
  have z0 : sm g (xI g 0 9 0) [0] := (sm.rf g _).xI (by simp)
  refine Ctr.mk (lb := [some (.ref 0), some (.int e)]) (by decide +kernel) (Nat.le_of_ble_eq_true rfl) rfl rfl ?_
  intro pp ee ss mm aa bb mt cd X hrt hlk hnm
  refine v_inv (fun hBB _ => ?_)
  have hDb : ∀ i, i < 10 → ∀ x ∈ S.2.2.2.2.2 i, isByte x := fun i hi x hx => by
    obtain ⟨-, -, ch, fl, fr, hW2, hX⟩ := hD
    rw [← hX i hi, bys] at hx
    obtain ⟨p, -, rfl⟩ := List.mem_map.mp hx
    exact hBB 984 32768 rfl p
  have hdl : (catX S.2.2.2.2.2 10).length ≤ 32768 := by
    obtain ⟨-, -, ch, fl, fr, hW2, hX⟩ := hD
    have h1 := dvt_tot hX
    have h2 := hW2.2.2.2.2.2.2.2.2.1
    have h3 := hW2.2.2.2.2.2.2.2.1
    have h4 : (catX S.2.2.2.2.2 10).length = dvt S.2.2.2.2.2 := by simp only [catX, dvt, List.length_append, List.length_nil]; omega
    omega
  refine v_iload_n X (dk D_Mi_finish 0 rfl) rfl ?_
  refine v_if_ne (tgt := 23) X (dk D_Mi_finish 1 rfl) (by decide) (fun c1 => ?_) (fun c1 => ?_)
  · refine v_aload_n X (dk D_Mi_finish 11 rfl) rfl ?_
    refine v_iload_n X (dk D_Mi_finish 12 rfl) rfl ?_
    refine v_bipush (v := 32) X (dk D_Mi_finish 13 rfl) (by decide) ?_
    refine v_icmp_ne (tgt := 40) X (dk D_Mi_finish 14 rfl) (by decide) (fun c27 => ?_) (fun c27 => ?_)
    · refine v_aload_n X (dk D_Mi_finish 19 rfl) rfl ?_
      refine v_getF X (dk D_Mi_finish 20 rfl) F_Mi_30 rfl rfl (hS.lt (by decide)) (hS.2 0 3) ?_
      refine v_invV (As := []) (st := [.ref 0]) X (k_line l q hS hI) (dk D_Mi_finish 21 rfl) G_Mi_157 K_In_line V_In_line rfl rfl (hS.lt (by decide)) rfl rfl (Nat.le_of_ble_eq_true rfl) (Nat.le_of_ble_eq_true rfl) (Nat.le_of_ble_eq_true rfl) (Nat.le_of_ble_eq_true rfl) (Nat.le_of_ble_eq_true rfl) ?_
      rintro v ws ⟨rfl, hws⟩
      rw [hws]
      show Vv _ _ _ _ _ _ _ _ _ _ _ _ _ _ _ [.int (nI (S.1.2.2.2 + 1)), .ref 0] (0, 0, g)
      refine v_putI X (dk D_Mi_finish 22 rfl) F_Mi_107 CK_Mi rfl rfl (hS.lt (by decide)) rfl rfl ?_
      exact v_vret X hlk hrt (dk D_Mi_finish 23 rfl) ⟨rfl, (sm.rf g _).xI (by simp), by rw [if_neg c1, if_neg c27]; exact gI_eq _ _ _ _, by rw [if_neg c1]; exact hB.sm ((sm.rf g [0]).xI (by simp)) (by decide) (by decide)⟩
    · refine v_aload_n X (dk D_Mi_finish 15 rfl) rfl ?_
      refine v_getF X (dk D_Mi_finish 16 rfl) F_Mi_30 rfl rfl (hS.lt (by decide)) (hS.2 0 3) ?_
      refine v_getI X (dk D_Mi_finish 17 rfl) F_Mi_154 rfl rfl (hS.lt (by decide)) ?_
      refine v_goto (tgt := 47) X (dk D_Mi_finish 18 rfl) (by decide) ?_
      refine v_putI X (dk D_Mi_finish 22 rfl) F_Mi_107 CK_Mi rfl rfl (hS.lt (by decide)) rfl rfl ?_
      exact v_vret X hlk hrt (dk D_Mi_finish 23 rfl) ⟨rfl, (sm.rf g _).xI (by simp), by rw [if_neg c1, if_pos c27]; exact gI_eq _ _ _ _, by rw [if_neg c1]; exact hB.sm ((sm.rf g [0]).xI (by simp)) (by decide) (by decide)⟩
  · refine v_aload_n X (dk D_Mi_finish 2 rfl) rfl ?_
    refine v_iconst (v := 0) X (dk D_Mi_finish 3 rfl) (by decide) ?_
    refine v_putI X (dk D_Mi_finish 4 rfl) F_Mi_107 CK_Mi rfl rfl (hS.lt (by decide)) rfl rfl ?_
    refine v_aload_n X (dk D_Mi_finish 5 rfl) rfl ?_
    refine v_getF X (dk D_Mi_finish 6 rfl) F_Mi_51 rfl rfl (hS.lt (by decide)) (hS.2 0 6) ?_
    refine v_aload_n X (dk D_Mi_finish 7 rfl) rfl ?_
    refine v_getF X (dk D_Mi_finish 8 rfl) F_Mi_21 rfl rfl (hS.lt (by decide)) (hS.2 0 1) ?_
    refine v_invV (As := [.ref 3]) (st := []) X (k_Di_gather l q (hS.sm z0) (hDR.sm z0 (by decide)) (hD.sm z0 (by decide)) (hB.sm z0 (by decide) (by decide)) hDb) (dk D_Mi_finish 9 rfl) G_Mi_150 K_Di_gather V_Di_gather rfl rfl (hS.lt (by decide)) rfl rfl (Nat.le_of_ble_eq_true rfl) (Nat.le_of_ble_eq_true rfl) (Nat.le_of_ble_eq_true rfl) (Nat.le_of_ble_eq_true rfl) (Nat.le_of_ble_eq_true rfl) ?_
    rintro v w ⟨rfl, a1, a2⟩
    rw [adL_in 32768 _ [] (by rw [List.length_nil]; omega), List.nil_append] at a2
    show Vv _ _ _ _ _ _ _ _ _ _ _ _ _ _ _ [] (0, 0, w.2.2)
    refine v_goto (tgt := 50) X (dk D_Mi_finish 10 rfl) (by decide) ?_
    exact v_vret X hlk hrt (dk D_Mi_finish 23 rfl) ⟨rfl, z0.tr a1 (U := [0, 3, 4]) (by simp) (by simp), by rw [if_pos c1, a1.I (by decide)]; exact gI_eq _ _ _ _, by rw [if_pos c1]; exact a2⟩
