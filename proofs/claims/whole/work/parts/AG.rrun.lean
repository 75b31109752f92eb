/-! the reference: a run -/
/-- the reference between calls: its text and what came out -/
def RO (g : mu_T) (T O : List Int32) : Prop := Shp g ∧ gI g 1003 0 = nI T.length ∧ rwA g 1004 0 T ∧ T.length ≤ 32768 ∧ gI g 1003 6 = nI O.length ∧ rwA g 1005 0 O ∧ O.length ≤ 32768
theorem bM_P : ∀ i, mgP (bM i) = biP i
  | 0 => rfl
  | i + 1 => by rw [bM, biP, mgP_add, bM_P i]
theorem catX_len (D : Nat → List Int32) : (catX D 10).length = dvt D := by
  simp only [catX, List.length_append, List.length_nil, dvt]
  omega
theorem catX_le (D : Nat → List Int32) : ∀ (i n : Nat), (catX D i).length ≤ (catX D (i + n)).length
  | i, 0 => Nat.le_refl _
  | i, n + 1 => by
    have := catX_le D i n
    rw [← Nat.add_assoc, catX, List.length_append]
    omega
theorem rA_0 {T : List Int32} {fu : Nat} {S : Mst} {tl : Int32} (h : rnX T fu = (0, S, tl)) (hc : S.2.2.1.1 = []) : rnA T fu = 0 := by
  rw [rnA, h]; exact if_neg (fun z => z.2 hc)
theorem rnA_rA (T : List Int32) (fu : Nat) : rnA T fu = rA (rnX T fu) := rfl
theorem rdT_k {op cl : List Int32} {I : Ip} : (rdT op cl I).1 < 0 → False := by
  rw [rdT]
  split
  · exact fun z => absurd z (show ¬ (0 : Int32) < 0 by decide)
  · split
    · exact fun z => absurd z (show ¬ (1 : Int32) < 0 by decide)
    · split
      · exact fun z => absurd z (show ¬ (2 : Int32) < 0 by decide)
      · split
        · exact fun z => absurd z (show ¬ (3 : Int32) < 0 by decide)
        · exact fun z => absurd z (show ¬ (4 : Int32) < 0 by decide)
theorem rd_k {x : Int32} (h : x ≤ 0) (hk : x < 0 → False) : x = 0 := Decidable.byContradiction (fun c => hk (Int32.lt_iff_le_and_ne.mpr ⟨h, c⟩))
set_option maxHeartbeats 4000000 in
set_option maxRecDepth 100000 in
theorem r_run (l : Launch) (q : ev_T) {T O : List Int32} {fu : Nat} {g : mu_T} (hO0 : RO g T O) (hf1 : 1 ≤ fu) (hf2 : fu ≤ 400000) : Ctr l q M_Rf_run 168 [.ref 1003, .int (nI fu)] (0, 0, g) (fun v w => v = some (.int (rnA T fu)) ∧ sm g w.2.2 (1003 :: [1005, 1006, 1007, 1008, 1009, 1010, 1011, 1012, 1013, 1014, 1015, 1016, 1017, 1018, 1019, 1020, 1021]) ∧ RO w.2.2 T (rnO T fu) ∧ gI w.2.2 1003 3 = rnE T fu ∧ gI w.2.2 1003 4 = nI (fu - (rnX T fu).2.1.1.2.2.1) ∧ gI w.2.2 1003 28 = nI (rnX T fu).2.1.2.2.2.1.2.1 ∧ gI w.2.2 1003 29 = nI (rnX T fu).2.1.2.2.2.1.2.2) := by
  have hS := hO0.1
  refine Ctr.mk (lb := [some (.ref 1003), some (.int (nI fu)), none, none]) (by decide +kernel) (Nat.le_of_ble_eq_true rfl) rfl rfl ?_
  intro pp ee ss mm aa bb mt cd X hrt hlk hnm
  refine v_inv (fun hBB _ => ?_)
  obtain ⟨gB, hgB⟩ : ∃ x, x = (xI (xI (xI (xI g 1003 2 0) 1003 3 0) 1003 4 0) 1003 6 0) := ⟨_, rfl⟩
  have hgs : sm g gB (1003 :: [1005, 1006, 1007, 1008, 1009, 1010, 1011, 1012, 1013, 1014, 1015, 1016, 1017, 1018, 1019, 1020, 1021]) := by
    rw [hgB]
    exact ((((sm.rf g _).xI (List.mem_cons_self ..)).xI (List.mem_cons_self ..)).xI (List.mem_cons_self ..)).xI (List.mem_cons_self ..)
  have hUm : ∀ a ∈ 1003 :: [1005, 1006, 1007, 1008, 1009, 1010, 1011, 1012, 1013, 1014, 1015, 1016, 1017, 1018, 1019, 1020, 1021], a ∈ 1003 :: [1005, 1006, 1007, 1008, 1009, 1010, 1011, 1012, 1013, 1014, 1015, 1016, 1017, 1018, 1019, 1020, 1021] := fun _ h => h
  have hSB : Shp gB := hO0.1.sm hgs
  have h2B : gI gB 1003 2 = 0 := by rw [hgB, gI_nk (by decide), gI_nk (by decide), gI_nk (by decide), gI_eq]
  have h3B : gI gB 1003 3 = 0 := by rw [hgB, gI_nk (by decide), gI_nk (by decide), gI_eq]
  have h4B : gI gB 1003 4 = 0 := by rw [hgB, gI_nk (by decide), gI_eq]
  have h6B : gI gB 1003 6 = nI 0 := by rw [hgB, gI_eq]; rfl
  have hO : RO gB T [] := ⟨hSB, by rw [hgB, gI_nk (by decide), gI_nk (by decide), gI_nk (by decide), gI_nk (by decide)]; exact hO0.2.1, fun j hj => (hgs.I (by decide) _).trans (hO0.2.2.1 j hj), hO0.2.2.2.1, h6B, fun j hj => absurd hj (Nat.not_lt_zero _), Nat.zero_le _⟩
  have hT9 := hO.2.2.2.1
  have hTb : ∀ x ∈ T, isByte x := rw_byte hBB (r := 1004) (N := 32768) rfl hO0.2.2.1
  have hH := r_handle l q 50 0 rfl
  have zG : rs gB (xI (xI (xI (xI gB 1003 10 1) 1003 11 (nI fu)) 1003 9 (nI T.length)) 1003 8 (nI (32768 - T.length))) [8, 9, 10, 11] [] := ((((rs.rf gB _ _).fI (by decide)).fI (by decide)).fI (by decide)).fI (by decide)
  have hSG := zG.S hSB
  have zG1 : rs (xI (xI (xI (xI gB 1003 10 1) 1003 11 (nI fu)) 1003 9 (nI T.length)) 1003 8 (nI (32768 - T.length))) (xI (xI (xI (xI gB 1003 10 1) 1003 11 (nI fu)) 1003 9 (nI T.length)) 1003 8 (nI (32768 - T.length))) [] [1006] := rs.rf _ _ _
  have f8 : gI (xI (xI (xI (xI gB 1003 10 1) 1003 11 (nI fu)) 1003 9 (nI T.length)) 1003 8 (nI (32768 - T.length))) 1003 8 = nI (32768 - T.length) := gI_eq _ _ _ _
  have f9 : gI (xI (xI (xI (xI gB 1003 10 1) 1003 11 (nI fu)) 1003 9 (nI T.length)) 1003 8 (nI (32768 - T.length))) 1003 9 = nI T.length := (gI_nk (by decide)).trans (gI_eq _ _ _ _)
  have eE : ∀ (h : mu_T), rs gB h [2, 3, 4, 6, 8, 9, 10, 11, 13, 15, 16, 18, 20, 21, 27, 28, 29, 32, 33, 34, 36, 37, 39, 40, 41, 42, 43, 44] [1005, 1006, 1007, 1008, 1009, 1010, 1011, 1012, 1013, 1014, 1015, 1016, 1017, 1018, 1019, 1020, 1021] → gI h 1003 6 = nI 0 → ¬ gI h 1003 2 = 0 → XE h fu (rnX T fu) → Vv pp l ee (rmT 168 0 0) ss mm aa bb mt cd 4 q (MQ bb (Qw q (fun v w => v = some (.int (rnA T fu)) ∧ sm g w.2.2 (1003 :: [1005, 1006, 1007, 1008, 1009, 1010, 1011, 1012, 1013, 1014, 1015, 1016, 1017, 1018, 1019, 1020, 1021]) ∧ RO w.2.2 T (rnO T fu) ∧ gI w.2.2 1003 3 = rnE T fu ∧ gI w.2.2 1003 4 = nI (fu - (rnX T fu).2.1.1.2.2.1) ∧ gI w.2.2 1003 28 = nI (rnX T fu).2.1.2.2.2.1.2.1 ∧ gI w.2.2 1003 29 = nI (rnX T fu).2.1.2.2.2.1.2.2)) aa ss 0 0 (fun a => q.1 ≤ a)) 214 [some (.ref 1003), some (.int (nI fu)), none, none] [] (0, 0, h) := by
    intro h hs h6 hne9 hX
    have hSh := hs.S hO.1
    have hA0 : ¬ rnA T fu = 0 := hX.1
    refine v_iconst (v := 0) X (dk D_Rf_run 120 rfl) (by decide) ?_
    refine v_istore_n (lb := [some (.ref 1003), some (.int (nI fu)), some (.int 0), none]) X (dk D_Rf_run 121 rfl) (by decide) rfl ?_
    refine v_iload_n X (dk D_Rf_run 122 rfl) rfl ?_
    refine v_bipush (v := 10) X (dk D_Rf_run 123 rfl) (by decide) ?_
    refine v_icmp_ge (tgt := 283) X (dk D_Rf_run 124 rfl) (by decide) (fun c219 => absurd c219 (by decide)) (fun _ => ?_)
    refine v_aload_n X (dk D_Rf_run 125 rfl) rfl ?_
    refine v_getI X (dk D_Rf_run 126 rfl) F_Rf_72 rfl rfl (hSh.lt (by decide)) ?_
    refine v_if_ne (tgt := 283) X (dk D_Rf_run 127 rfl) (by decide) (fun _ => ?_) (fun c226 => absurd c226 hne9)
    refine v_aload_n X (dk D_Rf_run 159 rfl) rfl ?_
    refine v_getI X (dk D_Rf_run 160 rfl) F_Rf_72 rfl rfl (hSh.lt (by decide)) ?_
    exact v_iret X hlk hrt (dk D_Rf_run 161 rfl) ⟨by rw [hX.2.1, rnA_rA], hgs.tr (hs.1.1.mono hUm) (fun _ h => h) (fun _ h => h), ⟨hSh, (hs.2 0 (by decide)).trans hO.2.1, fun j hj => (hs.row (by decide) (by decide) _).trans (hO.2.2.1 j hj), hO.2.2.2.1, by rw [rnO, if_neg hA0]; exact h6, by rw [rnO, if_neg hA0]; exact fun j hj => absurd hj (Nat.not_lt_zero _), by rw [rnO, if_neg hA0]; exact Nat.zero_le _⟩, by rw [rnE, if_neg hA0, rnA_rA]; exact hX.2.2.1, hX.2.2.2.1, hX.2.2.2.2.1, hX.2.2.2.2.2.1⟩
  have outp : ∀ (S : Mst) (tl : Int32) (D : Nat → List Int32), (rnX T fu) = (0, S, tl) → S.2.2.1.1 = [] → S.2.2.2.2.2 = D → (∀ i, i < 10 → ∀ x ∈ D i, isByte x) → dvt D ≤ 32768 → ∀ (d i : Nat) (h : mu_T), i + d = 10 → i ≤ 10 → rs gB h [2, 3, 4, 6, 8, 9, 10, 11, 13, 15, 16, 18, 20, 21, 27, 28, 29, 32, 33, 34, 36, 37, 39, 40, 41, 42, 43, 44] [1005, 1006, 1007, 1008, 1009, 1010, 1011, 1012, 1013, 1014, 1015, 1016, 1017, 1018, 1019, 1020, 1021] → DVR h S.2.2.2.2.1 D → gI h 1003 2 = 0 → gI h 1003 3 = 0 → gI h 1003 4 = nI (fu - S.1.2.2.1) → gI h 1003 28 = nI S.2.2.2.1.2.1 → gI h 1003 29 = nI S.2.2.2.1.2.2 → gI h 1003 6 = nI (catX D i).length → rwA h 1005 0 (catX D i) → Vv pp l ee (rmT 168 0 0) ss mm aa bb mt cd 4 q (MQ bb (Qw q (fun v w => v = some (.int (rnA T fu)) ∧ sm g w.2.2 (1003 :: [1005, 1006, 1007, 1008, 1009, 1010, 1011, 1012, 1013, 1014, 1015, 1016, 1017, 1018, 1019, 1020, 1021]) ∧ RO w.2.2 T (rnO T fu) ∧ gI w.2.2 1003 3 = rnE T fu ∧ gI w.2.2 1003 4 = nI (fu - (rnX T fu).2.1.1.2.2.1) ∧ gI w.2.2 1003 28 = nI (rnX T fu).2.1.2.2.2.1.2.1 ∧ gI w.2.2 1003 29 = nI (rnX T fu).2.1.2.2.2.1.2.2)) aa ss 0 0 (fun a => q.1 ≤ a)) 216 [some (.ref 1003), some (.int (nI fu)), some (.int (nI i)), none] [] (0, 0, h) := by
    intro S tl D hrx hcl hSD hbt hdv d
    induction d with
    | zero =>
      intro i h hid hi hs hD e2 e3 e4 e28 e29 h6 h5
      have hSh := hs.S hO.1
      have hi10 : i = 10 := by omega
      subst hi10
      rw [← hSD] at h5 h6 hD
      refine v_iload_n X (dk D_Rf_run 122 rfl) rfl ?_
      refine v_bipush (v := 10) X (dk D_Rf_run 123 rfl) (by decide) ?_
      refine v_icmp_ge (tgt := 283) X (dk D_Rf_run 124 rfl) (by decide) (fun _ => ?_) (fun c219 => absurd (nI_le (a := 10) (by omega) (by omega)) c219)
      refine v_aload_n X (dk D_Rf_run 159 rfl) rfl ?_
      refine v_getI X (dk D_Rf_run 160 rfl) F_Rf_72 rfl rfl (hSh.lt (by decide)) ?_
      exact v_iret X hlk hrt (dk D_Rf_run 161 rfl) ⟨by rw [rA_0 hrx hcl, e2], hgs.tr (hs.1.1.mono hUm) (fun _ h => h) (fun _ h => h), ⟨hSh, (hs.2 0 (by decide)).trans hO.2.1, fun j hj => (hs.row (by decide) (by decide) _).trans (hO.2.2.1 j hj), hO.2.2.2.1, by rw [rnO, if_pos (rA_0 hrx hcl), hrx]; exact h6, by rw [rnO, if_pos (rA_0 hrx hcl), hrx]; exact h5, by rw [rnO, if_pos (rA_0 hrx hcl), hrx, catX_len]; exact hD.2.2.2.1⟩, by rw [rnE, if_pos (rA_0 hrx hcl)]; exact e3, by rw [hrx]; exact e4, by rw [hrx]; exact e28, by rw [hrx]; exact e29⟩
    | succ d ih =>
      intro i h hid hi hs hD e2 e3 e4 e28 e29 h6 h5
      have hSh := hs.S hO.1
      have hcat := catX_le D (i + 1) (10 - (i + 1))
      rw [show i + 1 + (10 - (i + 1)) = 10 by omega, catX_len, catX, List.length_append] at hcat
      have inner : ∀ (dj j : Nat) (k : mu_T), j + dj = (D i).length → j ≤ (D i).length → rs gB k [2, 3, 4, 6, 8, 9, 10, 11, 13, 15, 16, 18, 20, 21, 27, 28, 29, 32, 33, 34, 36, 37, 39, 40, 41, 42, 43, 44] [1005, 1006, 1007, 1008, 1009, 1010, 1011, 1012, 1013, 1014, 1015, 1016, 1017, 1018, 1019, 1020, 1021] → DVR k S.2.2.2.2.1 D → gI k 1003 2 = 0 → gI k 1003 3 = 0 → gI k 1003 4 = nI (fu - S.1.2.2.1) → gI k 1003 28 = nI S.2.2.2.1.2.1 → gI k 1003 29 = nI S.2.2.2.1.2.2 → gI k 1003 6 = nI (catX D i ++ (D i).take j).length → rwA k 1005 0 (catX D i ++ (D i).take j) → Vv pp l ee (rmT 168 0 0) ss mm aa bb mt cd 4 q (MQ bb (Qw q (fun v w => v = some (.int (rnA T fu)) ∧ sm g w.2.2 (1003 :: [1005, 1006, 1007, 1008, 1009, 1010, 1011, 1012, 1013, 1014, 1015, 1016, 1017, 1018, 1019, 1020, 1021]) ∧ RO w.2.2 T (rnO T fu) ∧ gI w.2.2 1003 3 = rnE T fu ∧ gI w.2.2 1003 4 = nI (fu - (rnX T fu).2.1.1.2.2.1) ∧ gI w.2.2 1003 28 = nI (rnX T fu).2.1.2.2.2.1.2.1 ∧ gI w.2.2 1003 29 = nI (rnX T fu).2.1.2.2.2.1.2.2)) aa ss 0 0 (fun a => q.1 ≤ a)) 231 [some (.ref 1003), some (.int (nI fu)), some (.int (nI i)), some (.int (nI j))] [] (0, 0, k) := by
        intro dj
        induction dj with
        | zero =>
          intro j k hjd hjl zk hDk e2 e3 e4 e28 e29 h6 h5
          have hSk := zk.S hO.1
          refine v_iload_n X (dk D_Rf_run 130 rfl) rfl ?_
          refine v_aload_n X (dk D_Rf_run 131 rfl) rfl ?_
          refine v_getF X (dk D_Rf_run 132 rfl) F_Rf_53 rfl rfl (hSk.lt (by decide)) (hSk.2 1003 31) ?_
          refine v_iload_n X (dk D_Rf_run 133 rfl) rfl ?_
          refine v_iald X (dk D_Rf_run 134 rfl) rfl (hSk.lt (by decide)) (vp_in_nI (show i < 10 by omega) (by decide)) ?_
          refine v_icmp_ge (tgt := 277) X (dk D_Rf_run 135 rfl) (by decide) (fun _ => ?_) (fun c238 => absurd (by rw [nI_clamp (by omega), (hDk.2.2.2.2 i (by omega)).1]; exact nI_le (by omega) (by omega)) c238)
          refine v_iinc (v := nI (i + 1)) (lb := [some (.ref 1003), some (.int (nI fu)), some (.int (nI (i + 1))), some (.int (nI j))]) X (dk D_Rf_run 157 rfl) rfl (nI_1 _) (by decide) rfl ?_
          refine v_goto (tgt := 216) X (dk D_Rf_run 158 rfl) (by decide) ?_
          exact v_weak (la := [some (.ref 1003), some (.int (nI fu)), some (.int (nI (i + 1))), none]) ⟨rfl, rfl, rfl, trivial⟩ <| ih (i + 1) k (by omega) (by omega) zk hDk e2 e3 e4 e28 e29 (by rw [catX]; rw [List.take_of_length_le (by omega)] at h6; exact h6) (by rw [catX]; rw [List.take_of_length_le (by omega)] at h5; exact h5)
        | succ dj ihj =>
          intro j k hjd hjl zk hDk e2 e3 e4 e28 e29 h6 h5
          have hSk := zk.S hO.1
          have hno : (catX D i ++ (D i).take j).length = (catX D i).length + j := by rw [List.length_append, List.length_take]; omega
          have hsn : catX D i ++ (D i).take (j + 1) = (catX D i ++ (D i).take j) ++ [(D i).getD j 0] := by
            rw [List.append_assoc, take_s (by omega)]
          have z2 : rs k (xI (xI k 1005 (catX D i ++ (D i).take j).length ((D i).getD j 0)) 1003 6 (nI ((catX D i ++ (D i).take j).length + 1))) [6] [1005] := ((rs.rf k _ _).rI (by decide) (by decide)).fI (by decide)
          refine v_iload_n X (dk D_Rf_run 130 rfl) rfl ?_
          refine v_aload_n X (dk D_Rf_run 131 rfl) rfl ?_
          refine v_getF X (dk D_Rf_run 132 rfl) F_Rf_53 rfl rfl (hSk.lt (by decide)) (hSk.2 1003 31) ?_
          refine v_iload_n X (dk D_Rf_run 133 rfl) rfl ?_
          refine v_iald X (dk D_Rf_run 134 rfl) rfl (hSk.lt (by decide)) (vp_in_nI (show i < 10 by omega) (by decide)) ?_
          refine v_icmp_ge (tgt := 277) X (dk D_Rf_run 135 rfl) (by decide) (fun c238 => absurd c238 (by rw [nI_clamp (by omega), (hDk.2.2.2.2 i (by omega)).1]; exact nI_ge (by omega) (by omega))) (fun _ => ?_)
          refine v_aload_n X (dk D_Rf_run 136 rfl) rfl ?_
          refine v_getF X (dk D_Rf_run 137 rfl) F_Rf_14 rfl rfl (hSk.lt (by decide)) (hSk.2 1003 5) ?_
          refine v_aload_n X (dk D_Rf_run 138 rfl) rfl ?_
          refine v_getI X (dk D_Rf_run 139 rfl) F_Rf_382 rfl rfl (hSk.lt (by decide)) ?_
          rw [h6]
          refine v_aload_n X (dk D_Rf_run 140 rfl) rfl ?_
          refine v_getF X (dk D_Rf_run 141 rfl) F_Rf_50 rfl rfl (hSk.lt (by decide)) (hSk.2 1003 30) ?_
          refine v_ldc X (dk D_Rf_run 142 rfl) C_Rf_9 ?_
          refine v_iload_n X (dk D_Rf_run 143 rfl) rfl ?_
          refine v_imul X (dk D_Rf_run 144 rfl) ?_
          rw [show (32768 : Int32) * nI i = nI (32768 * i) from (Int32.ofNat_mul 32768 i).symm]
          refine v_iload_n X (dk D_Rf_run 145 rfl) rfl ?_
          refine v_iadd X (dk D_Rf_run 146 rfl) ?_
          rw [nI_add]
          refine v_bald X (dk D_Rf_run 147 rfl) rfl (hSk.lt (by decide)) (vp_in_nI (show 32768 * i + j < 327680 by omega) (by decide)) ?_
          rw [nI_clamp (by omega), (hDk.2.2.2.2 i (by omega)).2 j (by omega)]
          refine v_bast X (dk D_Rf_run 148 rfl) rfl (hSk.lt (by decide)) (vp_in_nI (show (catX D i ++ (D i).take j).length < 32768 by omega) (by decide)) rfl ?_
          rw [nI_clamp (by omega), show ((D i).getD j 0).toInt8.toInt32 = (D i).getD j 0 from hbt i (by omega) _ (getD_mem (by omega))]
          refine v_aload_n X (dk D_Rf_run 149 rfl) rfl ?_
          refine v_dup X (dk D_Rf_run 150 rfl) rfl ?_
          refine v_getI X (dk D_Rf_run 151 rfl) F_Rf_382 rfl rfl (hSk.lt (by decide)) ?_
          rw [gI_na (by decide), h6]
          refine v_iconst (v := 1) X (dk D_Rf_run 152 rfl) (by decide) ?_
          refine v_iadd X (dk D_Rf_run 153 rfl) ?_
          rw [nI_1]
          refine v_putI X (dk D_Rf_run 154 rfl) F_Rf_382 CK_Rf rfl rfl (hSk.lt (by decide)) rfl rfl ?_
          refine v_iinc (v := nI (j + 1)) (lb := [some (.ref 1003), some (.int (nI fu)), some (.int (nI i)), some (.int (nI (j + 1)))]) X (dk D_Rf_run 155 rfl) rfl (nI_1 _) (by decide) rfl ?_
          refine v_goto (tgt := 231) X (dk D_Rf_run 156 rfl) (by decide) ?_
          exact ihj (j + 1) _ (by omega) (by omega) (zk.tr (z2.mono (by decide) (by decide))) (hDk.rs z2 (by decide) (by decide) (by decide) (by decide)) ((z2.2 2 (by decide)).trans e2) ((z2.2 3 (by decide)).trans e3) ((z2.2 4 (by decide)).trans e4) ((z2.2 28 (by decide)).trans e28) ((z2.2 29 (by decide)).trans e29) (by rw [hsn, gI_eq]; exact congrArg nI (List.length_append (as := catX D i ++ (D i).take j) (bs := [(D i).getD j 0])).symm) (by rw [hsn]; exact fun x hx => (gI_na (by decide)).trans (by have := rwA_snoc (x := (D i).getD j 0) h5; rw [Nat.zero_add] at this; exact this x hx))
      refine v_iload_n X (dk D_Rf_run 122 rfl) rfl ?_
      refine v_bipush (v := 10) X (dk D_Rf_run 123 rfl) (by decide) ?_
      refine v_icmp_ge (tgt := 283) X (dk D_Rf_run 124 rfl) (by decide) (fun c219 => absurd c219 (nI_ge (b := 10) (by omega) (by decide))) (fun _ => ?_)
      refine v_aload_n X (dk D_Rf_run 125 rfl) rfl ?_
      refine v_getI X (dk D_Rf_run 126 rfl) F_Rf_72 rfl rfl (hSh.lt (by decide)) ?_
      refine v_if_ne (tgt := 283) X (dk D_Rf_run 127 rfl) (by decide) (fun c226 => absurd e2 c226) (fun _ => ?_)
      refine v_iconst (v := nI 0) X (dk D_Rf_run 128 rfl) (by decide) ?_
      refine v_istore_n (lb := [some (.ref 1003), some (.int (nI fu)), some (.int (nI i)), some (.int (nI 0))]) X (dk D_Rf_run 129 rfl) (by decide) rfl ?_
      exact inner (D i).length 0 h (by omega) (by omega) hs hD e2 e3 e4 e28 e29 (by rw [List.take_zero, List.append_nil]; exact h6) (by rw [List.take_zero, List.append_nil]; exact h5)
  have lE : ∀ (h : mu_T), rs gB h [2, 3, 4, 6, 8, 9, 10, 11, 13, 15, 16, 18, 20, 21, 27, 28, 29, 32, 33, 34, 36, 37, 39, 40, 41, 42, 43, 44] [1005, 1006, 1007, 1008, 1009, 1010, 1011, 1012, 1013, 1014, 1015, 1016, 1017, 1018, 1019, 1020, 1021] → gI h 1003 6 = nI 0 → ¬ gI h 1003 2 = 0 → XE h fu (rnX T fu) → Vv pp l ee (rmT 168 0 0) ss mm aa bb mt cd 4 q (MQ bb (Qw q (fun v w => v = some (.int (rnA T fu)) ∧ sm g w.2.2 (1003 :: [1005, 1006, 1007, 1008, 1009, 1010, 1011, 1012, 1013, 1014, 1015, 1016, 1017, 1018, 1019, 1020, 1021]) ∧ RO w.2.2 T (rnO T fu) ∧ gI w.2.2 1003 3 = rnE T fu ∧ gI w.2.2 1003 4 = nI (fu - (rnX T fu).2.1.1.2.2.1) ∧ gI w.2.2 1003 28 = nI (rnX T fu).2.1.2.2.2.1.2.1 ∧ gI w.2.2 1003 29 = nI (rnX T fu).2.1.2.2.2.1.2.2)) aa ss 0 0 (fun a => q.1 ≤ a)) 181 [some (.ref 1003), some (.int (nI fu)), none, none] [] (0, 0, h) := by
    intro h hs h6 hne9 hX
    have hSh := hs.S hO.1
    by_cases hk : gI h 1003 16 ≤ 0
    · skip
      refine v_aload_n X (dk D_Rf_run 105 rfl) rfl ?_
      refine v_getI X (dk D_Rf_run 106 rfl) F_Rf_126 rfl rfl (hSh.lt (by decide)) ?_
      refine v_if_le (tgt := 214) X (dk D_Rf_run 107 rfl) (by decide) (fun _ => ?_) (fun c185 => absurd hk c185)
      exact eE h hs h6 hne9 hX
    · skip
      refine v_aload_n X (dk D_Rf_run 105 rfl) rfl ?_
      refine v_getI X (dk D_Rf_run 106 rfl) F_Rf_126 rfl rfl (hSh.lt (by decide)) ?_
      refine v_if_le (tgt := 214) X (dk D_Rf_run 107 rfl) (by decide) (fun c185 => absurd c185 hk) (fun _ => ?_)
      refine v_aload_n X (dk D_Rf_run 108 rfl) rfl ?_
      refine v_getI X (dk D_Rf_run 109 rfl) F_Rf_72 rfl rfl (hSh.lt (by decide)) ?_
      refine v_if_ne (tgt := 214) X (dk D_Rf_run 110 rfl) (by decide) (fun _ => ?_) (fun c192 => absurd c192 hne9)
      exact eE h hs h6 hne9 hX
  have nxtg : ∀ n : Nat, (∀ (S : Mst) (kd : Int32) (tk : List Int32) (tl : Int32) (h : mu_T), (kd = 0 ∨ S.1.2.2.1 < n) → RF h fu S → S.2.2.1.1 = [] → TK h tk → gI h 1003 16 = kd → (kd = 4 → tk.length = 1) → (kd < 0 → False) → gI h 1003 3 = 0 → rs gB h [2, 3, 4, 6, 8, 9, 10, 11, 13, 15, 16, 18, 20, 21, 27, 28, 29, 32, 33, 34, 36, 37, 39, 40, 41, 42, 43, 44] [1005, 1006, 1007, 1008, 1009, 1010, 1011, 1012, 1013, 1014, 1015, 1016, 1017, 1018, 1019, 1020, 1021] → gI h 1003 6 = nI 0 → (rnX T fu) = rn0 kd tk S tl → Vv pp l ee (rmT 168 0 0) ss mm aa bb mt cd 4 q (MQ bb (Qw q (fun v w => v = some (.int (rnA T fu)) ∧ sm g w.2.2 (1003 :: [1005, 1006, 1007, 1008, 1009, 1010, 1011, 1012, 1013, 1014, 1015, 1016, 1017, 1018, 1019, 1020, 1021]) ∧ RO w.2.2 T (rnO T fu) ∧ gI w.2.2 1003 3 = rnE T fu ∧ gI w.2.2 1003 4 = nI (fu - (rnX T fu).2.1.1.2.2.1) ∧ gI w.2.2 1003 28 = nI (rnX T fu).2.1.2.2.2.1.2.1 ∧ gI w.2.2 1003 29 = nI (rnX T fu).2.1.2.2.2.1.2.2)) aa ss 0 0 (fun a => q.1 ≤ a)) 181 [some (.ref 1003), some (.int (nI fu)), none, none] [] (0, 0, h)) → ∀ (S2 : Mst) (k w : mu_T), RF k fu S2 → S2.2.2.1.1 = [] → S2.1.2.2.1 ≤ n → rs gB w [2, 3, 4, 6, 8, 9, 10, 11, 13, 15, 16, 18, 20, 21, 27, 28, 29, 32, 33, 34, 36, 37, 39, 40, 41, 42, 43, 44] [1005, 1006, 1007, 1008, 1009, 1010, 1011, 1012, 1013, 1014, 1015, 1016, 1017, 1018, 1019, 1020, 1021] → gI w 1003 6 = nI 0 → rs k w [16, 2, 3, 4, 8, 9, 10, 11, 18] [1009] → RQ w fu (rdT S2.2.1.1 S2.2.1.2 S2.1).2.2.1 → gI w 1003 16 = (rdT S2.2.1.1 S2.2.1.2 S2.1).1 → gI w 1003 2 = (rdT S2.2.1.1 S2.2.1.2 S2.1).2.1 → (¬ (rdT S2.2.1.1 S2.2.1.2 S2.1).2.1 = 0 → gI w 1003 3 = (if (rdT S2.2.1.1 S2.2.1.2 S2.1).2.1 = 32 then nI (S2.1.2.2.2 + 1) else nI ((rdT S2.2.1.1 S2.2.1.2 S2.1).2.2.1.2.2.2 + 1))) → TK w (rdT S2.2.1.1 S2.2.1.2 S2.1).2.2.2 → rnD S2 = (rnX T fu) → gI k 1003 3 = 0 → Vv pp l ee (rmT 168 0 0) ss mm aa bb mt cd 4 q (MQ bb (Qw q (fun v w => v = some (.int (rnA T fu)) ∧ sm g w.2.2 (1003 :: [1005, 1006, 1007, 1008, 1009, 1010, 1011, 1012, 1013, 1014, 1015, 1016, 1017, 1018, 1019, 1020, 1021]) ∧ RO w.2.2 T (rnO T fu) ∧ gI w.2.2 1003 3 = rnE T fu ∧ gI w.2.2 1003 4 = nI (fu - (rnX T fu).2.1.1.2.2.1) ∧ gI w.2.2 1003 28 = nI (rnX T fu).2.1.2.2.2.1.2.1 ∧ gI w.2.2 1003 29 = nI (rnX T fu).2.1.2.2.2.1.2.2)) aa ss 0 0 (fun a => q.1 ≤ a)) 181 [some (.ref 1003), some (.int (nI fu)), none, none] [] (0, 0, w) := by
    intro n ih S2 k w hF2 hc2 hfl zs2 h62 b1 b2 b3 b4 b5 b6 hXn e3k
    have S2h := zs2.S hO.1
    have hZ := hF2.1
    rw [rnD] at hXn
    by_cases c3 : ¬ (rdT S2.2.1.1 S2.2.1.2 S2.1).2.1 = 0
    · rw [if_pos c3] at hXn
      have hne : ¬ gI w 1003 2 = 0 := by rw [b4]; exact c3
      refine lE w zs2 h62 hne ?_
      rw [← hXn]
      have hr : rA ((rdT S2.2.1.1 S2.2.1.2 S2.1).2.1, sI S2 (rdT S2.2.1.1 S2.2.1.2 S2.1).2.2.1, nI (S2.1.2.2.2 + 1)) = (rdT S2.2.1.1 S2.2.1.2 S2.1).2.1 := if_neg (fun z => c3 z.1)
      rw [XE, hr]
      exact ⟨c3, b4, b5 c3, b2.2.2.2.2.2.2.2.1, (b1.2 28 (by decide)).trans hZ.2.2.2.2.1.cnt.1, (b1.2 29 (by decide)).trans hZ.2.2.2.2.1.cnt.2, _, hF2.2.1.2.2.1, (b1.2 37 (by decide)).trans hF2.2.1.2.1⟩
    · rw [if_neg c3] at hXn
      have c3 := Decidable.not_not.mp c3
      have f1 := rdT_fl (op := S2.2.1.1) (cl := S2.2.1.2) (I := S2.1) hF2.2.2.2.2.1.1
      refine ih (sI S2 (rdT S2.2.1.1 S2.2.1.2 S2.1).2.2.1) (rdT S2.2.1.1 S2.2.1.2 S2.1).1 (rdT S2.2.1.1 S2.2.1.2 S2.1).2.2.2 _ w ?_ ⟨⟨S2h, b2, hZ.2.2.1.rs b1 (by decide) (by decide) (by decide) (by decide), hZ.2.2.2.1, hZ.2.2.2.2.1.rs b1 (by decide) (by decide), hZ.2.2.2.2.2.rs b1 (by decide) (by decide) (by decide) (by decide)⟩, hF2.2.1.rs b1 (by decide) (by decide) (by decide), hF2.2.2.1, hF2.2.2.2.1, hF2.2.2.2.2.1, hF2.2.2.2.2.2.1.rs b1 (by decide) (by decide), b4.trans c3⟩ hc2 b6 b3 (fun z => rdT_4 z c3) rdT_k ?_ zs2 h62 hXn.symm
      · by_cases z : (rdT S2.2.1.1 S2.2.1.2 S2.1).1 = 0
        · exact Or.inl z
        · exact Or.inr (by have := f1.2 z c3; show (rdT S2.2.1.1 S2.2.1.2 S2.1).2.2.1.2.2.1 < n; omega)
      · exact (b1.er (b4.trans c3)).trans e3k
  have loop : ∀ n : Nat, ∀ (S : Mst) (kd : Int32) (tk : List Int32) (tl : Int32) (h : mu_T), (kd = 0 ∨ S.1.2.2.1 < n) → RF h fu S → S.2.2.1.1 = [] → TK h tk → gI h 1003 16 = kd → (kd = 4 → tk.length = 1) → (kd < 0 → False) → gI h 1003 3 = 0 → rs gB h [2, 3, 4, 6, 8, 9, 10, 11, 13, 15, 16, 18, 20, 21, 27, 28, 29, 32, 33, 34, 36, 37, 39, 40, 41, 42, 43, 44] [1005, 1006, 1007, 1008, 1009, 1010, 1011, 1012, 1013, 1014, 1015, 1016, 1017, 1018, 1019, 1020, 1021] → gI h 1003 6 = nI 0 → (rnX T fu) = rn0 kd tk S tl → Vv pp l ee (rmT 168 0 0) ss mm aa bb mt cd 4 q (MQ bb (Qw q (fun v w => v = some (.int (rnA T fu)) ∧ sm g w.2.2 (1003 :: [1005, 1006, 1007, 1008, 1009, 1010, 1011, 1012, 1013, 1014, 1015, 1016, 1017, 1018, 1019, 1020, 1021]) ∧ RO w.2.2 T (rnO T fu) ∧ gI w.2.2 1003 3 = rnE T fu ∧ gI w.2.2 1003 4 = nI (fu - (rnX T fu).2.1.1.2.2.1) ∧ gI w.2.2 1003 28 = nI (rnX T fu).2.1.2.2.2.1.2.1 ∧ gI w.2.2 1003 29 = nI (rnX T fu).2.1.2.2.2.1.2.2)) aa ss 0 0 (fun a => q.1 ≤ a)) 181 [some (.ref 1003), some (.int (nI fu)), none, none] [] (0, 0, h) := by
    intro n
    induction n with
    | zero =>
      intro S kd tk tl h hn hF hcl hTK hkd hk4 hkr e3 hs h6 hX
      have hSh := hs.S hO.1
      have hk0 : kd = 0 := hn.resolve_right (Nat.not_lt_zero _)
      subst hk0
      rw [rn0_0] at hX
      refine v_inv (fun hBB _ => ?_)
      have hbt : ∀ i, i < 10 → ∀ x ∈ S.2.2.2.2.2 i, isByte x := fun i hi => rw_byte hBB (r := 1016) (N := 327680) rfl (hF.1.2.2.2.2.2.2.2.2.2 i hi).2
      refine v_aload_n X (dk D_Rf_run 105 rfl) rfl ?_
      refine v_getI X (dk D_Rf_run 106 rfl) F_Rf_126 rfl rfl (hSh.lt (by decide)) ?_
      refine v_if_le (tgt := 214) X (dk D_Rf_run 107 rfl) (by decide) (fun _ => ?_) (fun c185 => absurd (by rw [hkd]; decide) c185)
      skip
      refine v_iconst (v := nI 0) X (dk D_Rf_run 120 rfl) (by decide) ?_
      refine v_istore_n (lb := [some (.ref 1003), some (.int (nI fu)), some (.int (nI 0)), none]) X (dk D_Rf_run 121 rfl) (by decide) rfl ?_
      exact outp S tl S.2.2.2.2.2 hX hcl rfl hbt hF.1.2.2.2.2.2.2.2.2.1 10 0 h rfl (by decide) hs hF.1.2.2.2.2.2 hF.2.2.2.2.2.2 e3 hF.1.2.1.2.2.2.2.2.2.2.1 hF.1.2.2.2.2.1.cnt.1 hF.1.2.2.2.2.1.cnt.2 h6 (fun j hj => absurd hj (Nat.not_lt_zero _))
    | succ n ih =>
      intro S kd tk tl h hn hF hcl hTK hkd hk4 hkr e3 hs h6 hX
      have hSh := hs.S hO.1
      by_cases hk0 : kd = 0
      · subst hk0
        rw [rn0_0] at hX
        refine v_inv (fun hBB _ => ?_)
        have hbt : ∀ i, i < 10 → ∀ x ∈ S.2.2.2.2.2 i, isByte x := fun i hi => rw_byte hBB (r := 1016) (N := 327680) rfl (hF.1.2.2.2.2.2.2.2.2.2 i hi).2
        refine v_aload_n X (dk D_Rf_run 105 rfl) rfl ?_
        refine v_getI X (dk D_Rf_run 106 rfl) F_Rf_126 rfl rfl (hSh.lt (by decide)) ?_
        refine v_if_le (tgt := 214) X (dk D_Rf_run 107 rfl) (by decide) (fun _ => ?_) (fun c185 => absurd (by rw [hkd]; decide) c185)
        skip
        refine v_iconst (v := nI 0) X (dk D_Rf_run 120 rfl) (by decide) ?_
        refine v_istore_n (lb := [some (.ref 1003), some (.int (nI fu)), some (.int (nI 0)), none]) X (dk D_Rf_run 121 rfl) (by decide) rfl ?_
        exact outp S tl S.2.2.2.2.2 hX hcl rfl hbt hF.1.2.2.2.2.2.2.2.2.1 10 0 h rfl (by decide) hs hF.1.2.2.2.2.2 hF.2.2.2.2.2.2 e3 hF.1.2.1.2.2.2.2.2.2.2.1 hF.1.2.2.2.2.1.cnt.1 hF.1.2.2.2.2.1.cnt.2 h6 (fun j hj => absurd hj (Nat.not_lt_zero _))
      · have hRX : RX S := ⟨⟨hF.2.2.1, by rw [hcl]; exact (fun f hf => by cases hf), hF.2.2.2.1⟩, hF.2.2.2.2.1⟩
        have hXh : hR kd tk S tl = (rnX T fu) := by
          rw [hX, rn0_s hRX hk4 hk0, hR, hU, usT, hcl]
        refine v_aload_n X (dk D_Rf_run 105 rfl) rfl ?_
        refine v_getI X (dk D_Rf_run 106 rfl) F_Rf_126 rfl rfl (hSh.lt (by decide)) ?_
        refine v_if_le (tgt := 214) X (dk D_Rf_run 107 rfl) (by decide) (fun c185 => absurd c185 (fun z => hk0 (rd_k (by rw [← hkd]; exact z) hkr))) (fun _ => ?_)
        refine v_aload_n X (dk D_Rf_run 108 rfl) rfl ?_
        refine v_getI X (dk D_Rf_run 109 rfl) F_Rf_72 rfl rfl (hSh.lt (by decide)) ?_
        refine v_if_ne (tgt := 214) X (dk D_Rf_run 110 rfl) (by decide) (fun c192 => absurd hF.2.2.2.2.2.2 c192) (fun _ => ?_)
        refine v_aload_n X (dk D_Rf_run 111 rfl) rfl ?_
        refine v_iconst (v := 0) X (dk D_Rf_run 112 rfl) (by decide) ?_
        rw [show (0 : Int32) = icN S.2.2.1.1 from by rw [hcl]; rfl]
        refine v_invV (As := [.int (icN S.2.2.1.1)]) (st := []) X (hH h fu S kd tk hF (by rw [hcl]; rfl) (by rw [hcl]; exact fun f hf => by cases hf) hTK hkd (fun _ => by rw [hcl]; exact fun f hf => by cases hf)) (dk D_Rf_run 113 rfl) G_Rf_265 K_Rf_handle V_Rf_handle rfl rfl (hSh.lt (by decide)) rfl rfl (Nat.le_of_ble_eq_true rfl) (Nat.le_of_ble_eq_true rfl) (Nat.le_of_ble_eq_true rfl) (Nat.le_of_ble_eq_true rfl) (Nat.le_of_ble_eq_true rfl) ?_
        rintro v w1 ⟨rfl, z1, hHP⟩
        have zs1 := hs.tr (z1.mono (by decide) (by decide))
        have S1 := zs1.S hO.1
        have h61 := (z1.2 6 (by decide)).trans h6
        show Vv _ _ _ _ _ _ _ _ _ _ _ _ _ _ _ [] (0, 0, w1.2.2)
        skip
        have nxt := nxtg n ih
        by_cases he1 : gI w1.2.2 1003 2 = 0
        · obtain ⟨S2, hF2, hc2, hf2, hX2⟩ := hHP.1 he1
          rw [hcl] at hc2
          have hc2 : S2.2.2.1.1 = [] := hc2
          have hn2 := hn.resolve_left hk0
          have hXn : rnD S2 = (rnX T fu) := (hX2 tl).symm.trans hXh
          refine v_aload_n X (dk D_Rf_run 114 rfl) rfl ?_
          refine v_getI X (dk D_Rf_run 115 rfl) F_Rf_72 rfl rfl (S1.lt (by decide)) ?_
          refine v_if_ne (tgt := 181) X (dk D_Rf_run 116 rfl) (by decide) (fun c204 => absurd he1 c204) (fun _ => ?_)
          refine v_aload_n X (dk D_Rf_run 117 rfl) rfl ?_
          refine v_invV (As := []) (st := []) X (r_readToken l q S1 hF2.1.2.1 he1 hF2.1.2.2.1) (dk D_Rf_run 118 rfl) G_Rf_256 K_Rf_readToken V_Rf_readToken rfl rfl (S1.lt (by decide)) rfl rfl (Nat.le_of_ble_eq_true rfl) (Nat.le_of_ble_eq_true rfl) (Nat.le_of_ble_eq_true rfl) (Nat.le_of_ble_eq_true rfl) (Nat.le_of_ble_eq_true rfl) ?_
          rintro v w2 ⟨rfl, b1, b2, b3, b4, b5, b6⟩
          have zs2 := zs1.tr (b1.mono (by decide) (by decide))
          have S2h := zs2.S hO.1
          have h62 := (b1.2 6 (by decide)).trans h61
          show Vv _ _ _ _ _ _ _ _ _ _ _ _ _ _ _ [] (0, 0, w2.2.2)
          refine v_goto (tgt := 181) X (dk D_Rf_run 119 rfl) (by decide) ?_
          exact nxt S2 w1.2.2 w2.2.2 hF2 hc2 (by omega) zs2 h62 b1 b2 b3 b4 b5 b6 hXn ((z1.er he1).trans e3)
        · have hXE : XE w1.2.2 fu (rnX T fu) := by rw [← hXh]; exact hHP.2 he1 tl
          refine v_aload_n X (dk D_Rf_run 114 rfl) rfl ?_
          refine v_getI X (dk D_Rf_run 115 rfl) F_Rf_72 rfl rfl (S1.lt (by decide)) ?_
          refine v_if_ne (tgt := 181) X (dk D_Rf_run 116 rfl) (by decide) (fun _ => ?_) (fun c204 => absurd c204 he1)
          exact lE w1.2.2 zs1 h61 he1 hXE
  have s157 : ∀ (h w1 k : mu_T), rs (xI (xI (xI (xI gB 1003 10 1) 1003 11 (nI fu)) 1003 9 (nI T.length)) 1003 8 (nI (32768 - T.length))) h [] [1006] → rwA h 1006 (32768 - T.length) T → rs (xI (xI (xI (xI h 1003 13 1) 1007 0 96) 1003 15 1) 1008 0 39) w1 [21, 27, 28, 29] [1011, 1012, 1013, 1014, 1015] → RM w1 (bM 17) → rs (xI (xI w1 1003 33 0) 1003 32 0) k [] [1017] → (∀ j, j < 10 → gI k 1017 j = 0) → Vv pp l ee (rmT 168 0 0) ss mm aa bb mt cd 4 q (MQ bb (Qw q (fun v w => v = some (.int (rnA T fu)) ∧ sm g w.2.2 (1003 :: [1005, 1006, 1007, 1008, 1009, 1010, 1011, 1012, 1013, 1014, 1015, 1016, 1017, 1018, 1019, 1020, 1021]) ∧ RO w.2.2 T (rnO T fu) ∧ gI w.2.2 1003 3 = rnE T fu ∧ gI w.2.2 1003 4 = nI (fu - (rnX T fu).2.1.1.2.2.1) ∧ gI w.2.2 1003 28 = nI (rnX T fu).2.1.2.2.2.1.2.1 ∧ gI w.2.2 1003 29 = nI (rnX T fu).2.1.2.2.2.1.2.2)) aa ss 0 0 (fun a => q.1 ≤ a)) 157 [some (.ref 1003), some (.int (nI fu)), none, none] [] (0, 0, k) := by
    intro h w1 k zh hr m1 m2 zk hz
    have hSh := zh.S hSG
    have zq : rs h (xI (xI (xI (xI h 1003 13 1) 1007 0 96) 1003 15 1) 1008 0 39) [13, 15] [1007, 1008] := ((((rs.rf h _ _).fI (by decide)).rI (by decide) (by decide)).fI (by decide)).rI (by decide) (by decide)
    have S1 := m1.S (zq.S hSh)
    have zd : rs w1 (xI (xI w1 1003 33 0) 1003 32 0) [32, 33] [] := ((rs.rf w1 _ _).fI (by decide)).fI (by decide)
    have hSk := zk.S (zd.S S1)
    have z5 : rs k (xI (xI (xI (xI k 1003 34 0) 1003 36 0) 1003 37 0) 1003 20 0) [20, 34, 36, 37] [] := ((((rs.rf k _ _).fI (by decide)).fI (by decide)).fI (by decide)).fI (by decide)
    have zdk : rs w1 (xI (xI (xI (xI k 1003 34 0) 1003 36 0) 1003 37 0) 1003 20 0) [20, 32, 33, 34, 36, 37] [1017] := ((zd.mono (by decide) (by decide)).tr (zk.mono (by decide) (by decide))).tr (z5.mono (by decide) (by decide))
    have zqk : rs (xI (xI (xI (xI h 1003 13 1) 1007 0 96) 1003 15 1) 1008 0 39) (xI (xI (xI (xI k 1003 34 0) 1003 36 0) 1003 37 0) 1003 20 0) [20, 21, 27, 28, 29, 32, 33, 34, 36, 37] [1011, 1012, 1013, 1014, 1015, 1017] := (m1.mono (by decide) (by decide)).tr (zdk.mono (by decide) (by decide))
    have zhk : rs h (xI (xI (xI (xI k 1003 34 0) 1003 36 0) 1003 37 0) 1003 20 0) [13, 15, 20, 21, 27, 28, 29, 32, 33, 34, 36, 37] [1007, 1008, 1011, 1012, 1013, 1014, 1015, 1017] := (zq.mono (by decide) (by decide)).tr (zqk.mono (by decide) (by decide))
    have zgk : rs (xI (xI (xI (xI gB 1003 10 1) 1003 11 (nI fu)) 1003 9 (nI T.length)) 1003 8 (nI (32768 - T.length))) (xI (xI (xI (xI k 1003 34 0) 1003 36 0) 1003 37 0) 1003 20 0) [13, 15, 20, 21, 27, 28, 29, 32, 33, 34, 36, 37] [1006, 1007, 1008, 1011, 1012, 1013, 1014, 1015, 1017] := (zh.mono (by decide) (by decide)).tr (zhk.mono (by decide) (by decide))
    have zall : rs gB (xI (xI (xI (xI k 1003 34 0) 1003 36 0) 1003 37 0) 1003 20 0) [2, 3, 4, 6, 8, 9, 10, 11, 13, 15, 16, 18, 20, 21, 27, 28, 29, 32, 33, 34, 36, 37, 39, 40, 41, 42, 43, 44] [1005, 1006, 1007, 1008, 1009, 1010, 1011, 1012, 1013, 1014, 1015, 1016, 1017, 1018, 1019, 1020, 1021] := (zG.mono (by decide) (by decide)).tr (zgk.mono (by decide) (by decide))
    have e5 : ∀ n ∈ [2, 3, 4, 6, 8, 9, 10, 11], gI (xI (xI (xI (xI k 1003 34 0) 1003 36 0) 1003 37 0) 1003 20 0) 1003 n = gI (xI (xI (xI (xI gB 1003 10 1) 1003 11 (nI fu)) 1003 9 (nI T.length)) 1003 8 (nI (32768 - T.length))) 1003 n := fun j hj => zgk.2 j (by revert j; decide)
    have z66 : gI (xI (xI (xI (xI k 1003 34 0) 1003 36 0) 1003 37 0) 1003 20 0) 1003 6 = gI gB 1003 6 := (e5 6 (by decide)).trans (zG.2 6 (by decide))
    have z63 : gI (xI (xI (xI (xI k 1003 34 0) 1003 36 0) 1003 37 0) 1003 20 0) 1003 3 = gI gB 1003 3 := (e5 3 (by decide)).trans (zG.2 3 (by decide))
    have hF : RF (xI (xI (xI (xI k 1003 34 0) 1003 36 0) 1003 37 0) 1003 20 0) fu (S0 T fu) := by
      refine ⟨⟨z5.S hSk, ⟨(e5 8 (by decide)).trans (gI_eq _ _ _ _), hO.2.2.2.1, fun j hj => (zhk.row (by decide) (by decide) _).trans (hr j hj), (e5 9 (by decide)).trans ((gI_nk (by decide)).trans (gI_eq _ _ _ _)), Nat.le_refl _, (e5 10 (by decide)).trans ((gI_nk (by decide)).trans ((gI_nk (by decide)).trans ((gI_nk (by decide)).trans (gI_eq _ _ _ _)))), (e5 11 (by decide)).trans ((gI_nk (by decide)).trans ((gI_nk (by decide)).trans (gI_eq _ _ _ _))), (e5 4 (by decide)).trans ((zG.2 4 (by decide)).trans (h4B.trans (by rw [show fu - (S0 T fu).1.2.2.1 = 0 from Nat.sub_self fu]; rfl))), Nat.le_refl _, by omega⟩, ?_, ⟨(fun x hx => by rw [List.mem_singleton.mp hx]; rfl), (fun x hx => by rw [List.mem_singleton.mp hx]; rfl)⟩, ⟨bM 17, m2.rs zdk (by decide) (by decide), ⟨by rw [bM_len, (bM_cD 17).1]; exact Nat.le_refl _, by have := bM_T 17 (Nat.le_refl _); rw [(bM_cD 17).2]; omega⟩, Nat.zero_le _, Nat.zero_le _, by rw [bM_P, (bM_cD 17).1, (bM_cD 17).2]; rfl⟩, ?_⟩, ?_, rfl, biP_ok 17 (Nat.le_refl _), RI_S0.2, ⟨gI_eq _ _ _ _, fun j hj => absurd hj (Nat.not_lt_zero _), Nat.zero_le _⟩, (e5 2 (by decide)).trans ((zG.2 2 (by decide)).trans h2B)⟩
      · exact QT.rs (g := (xI (xI (xI (xI h 1003 13 1) 1007 0 96) 1003 15 1) 1008 0 39)) (QT_first (g := h)) zqk (by decide) (by decide) (by decide) (by decide)
      · refine DVR.rs (g := k) ⟨(zk.2 33 (by decide)).trans ((gI_nk (by decide)).trans (gI_eq _ _ _ _)), Or.inr ⟨0, by decide, rfl⟩, (zk.2 32 (by decide)).trans (gI_eq _ _ _ _), Nat.zero_le 32768, fun i hi => ⟨hz i hi, fun j hj => absurd hj (Nat.not_lt_zero _)⟩⟩ z5 (by decide) (by decide) (by decide) (by decide)
      · exact ⟨⟨by rw [gI_nk (by decide), gI_nk (by decide), gI_eq]; rfl, fun j hj => absurd hj (Nat.not_lt_zero _), Nat.zero_le _⟩, by rw [gI_nk (by decide), gI_eq]; rfl, Nat.zero_le _, by rw [gI_nk (by decide), gI_nk (by decide), gI_nk (by decide), gI_eq]; rfl, Nat.zero_le _, trivial⟩
    refine v_aload_n X (dk D_Rf_run 91 rfl) rfl ?_
    refine v_iconst (v := 0) X (dk D_Rf_run 92 rfl) (by decide) ?_
    refine v_putI X (dk D_Rf_run 93 rfl) F_Rf_240 CK_Rf rfl rfl (hSk.lt (by decide)) rfl rfl ?_
    refine v_aload_n X (dk D_Rf_run 94 rfl) rfl ?_
    refine v_iconst (v := 0) X (dk D_Rf_run 95 rfl) (by decide) ?_
    refine v_putI X (dk D_Rf_run 96 rfl) F_Rf_226 CK_Rf rfl rfl (hSk.lt (by decide)) rfl rfl ?_
    refine v_aload_n X (dk D_Rf_run 97 rfl) rfl ?_
    refine v_iconst (v := 0) X (dk D_Rf_run 98 rfl) (by decide) ?_
    refine v_putI X (dk D_Rf_run 99 rfl) F_Rf_243 CK_Rf rfl rfl (hSk.lt (by decide)) rfl rfl ?_
    refine v_aload_n X (dk D_Rf_run 100 rfl) rfl ?_
    refine v_iconst (v := 0) X (dk D_Rf_run 101 rfl) (by decide) ?_
    refine v_putI X (dk D_Rf_run 102 rfl) F_Rf_139 CK_Rf rfl rfl (hSk.lt (by decide)) rfl rfl ?_
    refine v_aload_n X (dk D_Rf_run 103 rfl) rfl ?_
    refine v_invV (As := []) (st := []) X (r_readToken l q (g := (xI (xI (xI (xI k 1003 34 0) 1003 36 0) 1003 37 0) 1003 20 0)) (fu := fu) (z5.S hSk) hF.1.2.1 hF.2.2.2.2.2.2 hF.1.2.2.1) (dk D_Rf_run 104 rfl) G_Rf_256 K_Rf_readToken V_Rf_readToken rfl rfl ((z5.S hSk).lt (by decide)) rfl rfl (Nat.le_of_ble_eq_true rfl) (Nat.le_of_ble_eq_true rfl) (Nat.le_of_ble_eq_true rfl) (Nat.le_of_ble_eq_true rfl) (Nat.le_of_ble_eq_true rfl) ?_
    rintro v w2 ⟨rfl, b1, b2, b3, b4, b5, b6⟩
    show Vv _ _ _ _ _ _ _ _ _ _ _ _ _ _ _ [] (0, 0, w2.2.2)
    exact nxtg fu (loop fu) (S0 T fu) _ w2.2.2 hF rfl (Nat.le_refl _) (zall.tr (b1.mono (by decide) (by decide))) ((b1.2 6 (by decide)).trans (z66.trans h6B)) b1 b2 b3 b4 b5 b6 (rnX_D hf1 hf2).symm (z63.trans h3B)
  have dvz : ∀ (h w1 : mu_T), rs (xI (xI (xI (xI gB 1003 10 1) 1003 11 (nI fu)) 1003 9 (nI T.length)) 1003 8 (nI (32768 - T.length))) h [] [1006] → rwA h 1006 (32768 - T.length) T → rs (xI (xI (xI (xI h 1003 13 1) 1007 0 96) 1003 15 1) 1008 0 39) w1 [21, 27, 28, 29] [1011, 1012, 1013, 1014, 1015] → RM w1 (bM 17) → ∀ (d i : Nat) (k : mu_T), i + d = 10 → rs (xI (xI w1 1003 33 0) 1003 32 0) k [] [1017] → (∀ j, j < i → gI k 1017 j = 0) → Vv pp l ee (rmT 168 0 0) ss mm aa bb mt cd 4 q (MQ bb (Qw q (fun v w => v = some (.int (rnA T fu)) ∧ sm g w.2.2 (1003 :: [1005, 1006, 1007, 1008, 1009, 1010, 1011, 1012, 1013, 1014, 1015, 1016, 1017, 1018, 1019, 1020, 1021]) ∧ RO w.2.2 T (rnO T fu) ∧ gI w.2.2 1003 3 = rnE T fu ∧ gI w.2.2 1003 4 = nI (fu - (rnX T fu).2.1.1.2.2.1) ∧ gI w.2.2 1003 28 = nI (rnX T fu).2.1.2.2.2.1.2.1 ∧ gI w.2.2 1003 29 = nI (rnX T fu).2.1.2.2.2.1.2.2)) aa ss 0 0 (fun a => q.1 ≤ a)) 138 [some (.ref 1003), some (.int (nI fu)), some (.int (nI i)), none] [] (0, 0, k) := by
    intro h w1 zh hr m1 m2 d
    have hSh := zh.S hSG
    have zq : rs h (xI (xI (xI (xI h 1003 13 1) 1007 0 96) 1003 15 1) 1008 0 39) [13, 15] [1007, 1008] := ((((rs.rf h _ _).fI (by decide)).rI (by decide) (by decide)).fI (by decide)).rI (by decide) (by decide)
    have S1 := m1.S (zq.S hSh)
    have zd : rs w1 (xI (xI w1 1003 33 0) 1003 32 0) [32, 33] [] := ((rs.rf w1 _ _).fI (by decide)).fI (by decide)
    induction d with
    | zero =>
      intro i k hid zk hz
      have hSk := zk.S (zd.S S1)
      refine v_iload_n X (dk D_Rf_run 81 rfl) rfl ?_
      refine v_bipush (v := 10) X (dk D_Rf_run 82 rfl) (by decide) ?_
      refine v_icmp_ge (tgt := 157) X (dk D_Rf_run 83 rfl) (by decide) (fun _ => ?_) (fun c141 => absurd (nI_le (a := 10) (by omega) (by omega)) c141)
      exact v_weak (la := [some (.ref 1003), some (.int (nI fu)), none, none]) ⟨rfl, rfl, trivial⟩ <| s157 h w1 k zh hr m1 m2 zk (fun i hi => hz i (by omega))
    | succ d ih =>
      intro i k hid zk hz
      have hSk := zk.S (zd.S S1)
      refine v_iload_n X (dk D_Rf_run 81 rfl) rfl ?_
      refine v_bipush (v := 10) X (dk D_Rf_run 82 rfl) (by decide) ?_
      refine v_icmp_ge (tgt := 157) X (dk D_Rf_run 83 rfl) (by decide) (fun c141 => absurd c141 (nI_ge (b := 10) (by omega) (by decide))) (fun _ => ?_)
      refine v_aload_n X (dk D_Rf_run 84 rfl) rfl ?_
      refine v_getF X (dk D_Rf_run 85 rfl) F_Rf_53 rfl rfl (hSk.lt (by decide)) (hSk.2 1003 31) ?_
      refine v_iload_n X (dk D_Rf_run 86 rfl) rfl ?_
      refine v_iconst (v := 0) X (dk D_Rf_run 87 rfl) (by decide) ?_
      refine v_iast X (dk D_Rf_run 88 rfl) rfl (hSk.lt (by decide)) (vp_in_nI (show i < 10 by omega) (by decide)) ?_
      rw [nI_clamp (by omega)]
      refine v_iinc (v := nI (i + 1)) (lb := [some (.ref 1003), some (.int (nI fu)), some (.int (nI (i + 1))), none]) X (dk D_Rf_run 89 rfl) rfl (nI_1 _) (by decide) rfl ?_
      refine v_goto (tgt := 138) X (dk D_Rf_run 90 rfl) (by decide) ?_
      exact ih (i + 1) _ (by omega) (zk.rI (by decide) (by decide)) (fun j hj => by by_cases e : j = i; (rw [e, gI_eq]); (rw [gI_nk e]; exact hz j (by omega)))
  have s96 : ∀ (h : mu_T), rs (xI (xI (xI (xI gB 1003 10 1) 1003 11 (nI fu)) 1003 9 (nI T.length)) 1003 8 (nI (32768 - T.length))) h [] [1006] → rwA h 1006 (32768 - T.length) T → Vv pp l ee (rmT 168 0 0) ss mm aa bb mt cd 4 q (MQ bb (Qw q (fun v w => v = some (.int (rnA T fu)) ∧ sm g w.2.2 (1003 :: [1005, 1006, 1007, 1008, 1009, 1010, 1011, 1012, 1013, 1014, 1015, 1016, 1017, 1018, 1019, 1020, 1021]) ∧ RO w.2.2 T (rnO T fu) ∧ gI w.2.2 1003 3 = rnE T fu ∧ gI w.2.2 1003 4 = nI (fu - (rnX T fu).2.1.1.2.2.1) ∧ gI w.2.2 1003 28 = nI (rnX T fu).2.1.2.2.2.1.2.1 ∧ gI w.2.2 1003 29 = nI (rnX T fu).2.1.2.2.2.1.2.2)) aa ss 0 0 (fun a => q.1 ≤ a)) 96 [some (.ref 1003), some (.int (nI fu)), none, none] [] (0, 0, h) := by
    intro h zh hr
    have hSh := zh.S hSG
    have zq : rs h (xI (xI (xI (xI h 1003 13 1) 1007 0 96) 1003 15 1) 1008 0 39) [13, 15] [1007, 1008] := ((((rs.rf h _ _).fI (by decide)).rI (by decide) (by decide)).fI (by decide)).rI (by decide) (by decide)
    refine v_aload_n X (dk D_Rf_run 55 rfl) rfl ?_
    refine v_iconst (v := 1) X (dk D_Rf_run 56 rfl) (by decide) ?_
    refine v_putI X (dk D_Rf_run 57 rfl) F_Rf_112 CK_Rf rfl rfl (hSh.lt (by decide)) rfl rfl ?_
    refine v_aload_n X (dk D_Rf_run 58 rfl) rfl ?_
    refine v_getF X (dk D_Rf_run 59 rfl) F_Rf_20 rfl rfl (hSh.lt (by decide)) (hSh.2 1003 12) ?_
    refine v_iconst (v := nI 0) X (dk D_Rf_run 60 rfl) (by decide) ?_
    refine v_bipush (v := 96) X (dk D_Rf_run 61 rfl) (by decide) ?_
    refine v_iast X (dk D_Rf_run 62 rfl) rfl (hSh.lt (by decide)) (vp_in_nI (show 0 < 4 by decide) (by decide)) ?_
    rw [nI_clamp (by decide)]
    refine v_aload_n X (dk D_Rf_run 63 rfl) rfl ?_
    refine v_iconst (v := 1) X (dk D_Rf_run 64 rfl) (by decide) ?_
    refine v_putI X (dk D_Rf_run 65 rfl) F_Rf_119 CK_Rf rfl rfl (hSh.lt (by decide)) rfl rfl ?_
    refine v_aload_n X (dk D_Rf_run 66 rfl) rfl ?_
    refine v_getF X (dk D_Rf_run 67 rfl) F_Rf_24 rfl rfl (hSh.lt (by decide)) (hSh.2 1003 14) ?_
    refine v_iconst (v := nI 0) X (dk D_Rf_run 68 rfl) (by decide) ?_
    refine v_bipush (v := 39) X (dk D_Rf_run 69 rfl) (by decide) ?_
    refine v_iast X (dk D_Rf_run 70 rfl) rfl (hSh.lt (by decide)) (vp_in_nI (show 0 < 4 by decide) (by decide)) ?_
    rw [nI_clamp (by decide)]
    refine v_aload_n X (dk D_Rf_run 71 rfl) rfl ?_
    refine v_invV (As := []) (st := []) X (r_beginMeanings l q (g := (xI (xI (xI (xI h 1003 13 1) 1007 0 96) 1003 15 1) 1008 0 39)) (zq.S hSh)) (dk D_Rf_run 72 rfl) G_Rf_385 K_Rf_beginMeanings V_Rf_beginMeanings rfl rfl ((zq.S hSh).lt (by decide)) rfl rfl (Nat.le_of_ble_eq_true rfl) (Nat.le_of_ble_eq_true rfl) (Nat.le_of_ble_eq_true rfl) (Nat.le_of_ble_eq_true rfl) (Nat.le_of_ble_eq_true rfl) ?_
    rintro v w1 ⟨rfl, m1, m2⟩
    have S1 := m1.S (zq.S hSh)
    show Vv _ _ _ _ _ _ _ _ _ _ _ _ _ _ _ [] (0, 0, w1.2.2)
    refine v_aload_n X (dk D_Rf_run 73 rfl) rfl ?_
    refine v_iconst (v := 0) X (dk D_Rf_run 74 rfl) (by decide) ?_
    refine v_putI X (dk D_Rf_run 75 rfl) F_Rf_220 CK_Rf rfl rfl (S1.lt (by decide)) rfl rfl ?_
    refine v_aload_n X (dk D_Rf_run 76 rfl) rfl ?_
    refine v_iconst (v := 0) X (dk D_Rf_run 77 rfl) (by decide) ?_
    refine v_putI X (dk D_Rf_run 78 rfl) F_Rf_217 CK_Rf rfl rfl (S1.lt (by decide)) rfl rfl ?_
    refine v_iconst (v := nI 0) X (dk D_Rf_run 79 rfl) (by decide) ?_
    refine v_istore_n (lb := [some (.ref 1003), some (.int (nI fu)), some (.int (nI 0)), none]) X (dk D_Rf_run 80 rfl) (by decide) rfl ?_
    exact dvz h w1.2.2 zh hr m1 m2 10 0 _ rfl (rs.rf _ _ _) (fun i hi => absurd hi (Nat.not_lt_zero _))
  have inp : ∀ (d k : Nat) (h : mu_T), k + d = T.length → rs (xI (xI (xI (xI gB 1003 10 1) 1003 11 (nI fu)) 1003 9 (nI T.length)) 1003 8 (nI (32768 - T.length))) h [] [1006] → gI h 1003 8 = nI (32768 - T.length) → gI h 1003 9 = nI T.length → rwA h 1006 (32768 - T.length) (T.take k) → Vv pp l ee (rmT 168 0 0) ss mm aa bb mt cd 4 q (MQ bb (Qw q (fun v w => v = some (.int (rnA T fu)) ∧ sm g w.2.2 (1003 :: [1005, 1006, 1007, 1008, 1009, 1010, 1011, 1012, 1013, 1014, 1015, 1016, 1017, 1018, 1019, 1020, 1021]) ∧ RO w.2.2 T (rnO T fu) ∧ gI w.2.2 1003 3 = rnE T fu ∧ gI w.2.2 1003 4 = nI (fu - (rnX T fu).2.1.1.2.2.1) ∧ gI w.2.2 1003 28 = nI (rnX T fu).2.1.2.2.2.1.2.1 ∧ gI w.2.2 1003 29 = nI (rnX T fu).2.1.2.2.2.1.2.2)) aa ss 0 0 (fun a => q.1 ≤ a)) 65 [some (.ref 1003), some (.int (nI fu)), some (.int (nI k)), none] [] (0, 0, h) := by
    intro d
    induction d with
    | zero =>
      intro k h hkd zh f8 f9 hr
      have hSh := zh.S hSG
      refine v_iload_n X (dk D_Rf_run 38 rfl) rfl ?_
      refine v_aload_n X (dk D_Rf_run 39 rfl) rfl ?_
      refine v_getI X (dk D_Rf_run 40 rfl) F_Rf_91 rfl rfl (hSh.lt (by decide)) ?_
      refine v_icmp_ge (tgt := 96) X (dk D_Rf_run 41 rfl) (by decide) (fun _ => ?_) (fun c70 => absurd (by rw [f9]; exact nI_le (by omega) (by omega)) c70)
      exact v_weak (la := [some (.ref 1003), some (.int (nI fu)), none, none]) ⟨rfl, rfl, trivial⟩ <| s96 h zh (by rw [List.take_of_length_le (by omega)] at hr; exact hr)
    | succ d ih =>
      intro k h hkd zh f8 f9 hr
      have hSh := zh.S hSG
      refine v_iload_n X (dk D_Rf_run 38 rfl) rfl ?_
      refine v_aload_n X (dk D_Rf_run 39 rfl) rfl ?_
      refine v_getI X (dk D_Rf_run 40 rfl) F_Rf_91 rfl rfl (hSh.lt (by decide)) ?_
      refine v_icmp_ge (tgt := 96) X (dk D_Rf_run 41 rfl) (by decide) (fun c70 => absurd c70 (by rw [f9]; exact nI_ge (by omega) (by omega))) (fun _ => ?_)
      refine v_aload_n X (dk D_Rf_run 42 rfl) rfl ?_
      refine v_getF X (dk D_Rf_run 43 rfl) F_Rf_17 rfl rfl (hSh.lt (by decide)) (hSh.2 1003 7) ?_
      refine v_aload_n X (dk D_Rf_run 44 rfl) rfl ?_
      refine v_getI X (dk D_Rf_run 45 rfl) F_Rf_78 rfl rfl (hSh.lt (by decide)) ?_
      rw [f8]
      refine v_iload_n X (dk D_Rf_run 46 rfl) rfl ?_
      refine v_iadd X (dk D_Rf_run 47 rfl) ?_
      rw [nI_add]
      refine v_aload_n X (dk D_Rf_run 48 rfl) rfl ?_
      refine v_getF X (dk D_Rf_run 49 rfl) F_Rf_10 rfl rfl (hSh.lt (by decide)) (hSh.2 1003 1) ?_
      refine v_iload_n X (dk D_Rf_run 50 rfl) rfl ?_
      refine v_bald X (dk D_Rf_run 51 rfl) rfl (hSh.lt (by decide)) (vp_in_nI (show k < 32768 by omega) (by decide)) ?_
      rw [nI_clamp (by omega), show gI h 1004 k = T.getD k 0 from ((zh.row (by decide) (by decide) k).trans (zG.row (by decide) (by decide) k)).trans (by have := hO.2.2.1 k (by omega); rw [Nat.zero_add] at this; exact this)]
      refine v_bast X (dk D_Rf_run 52 rfl) rfl (hSh.lt (by decide)) (vp_in_nI (show 32768 - T.length + k < 32768 by omega) (by decide)) rfl ?_
      rw [nI_clamp (by omega), show (T.getD k 0).toInt8.toInt32 = T.getD k 0 from hTb _ (getD_mem (by omega))]
      refine v_iinc (v := nI (k + 1)) (lb := [some (.ref 1003), some (.int (nI fu)), some (.int (nI (k + 1))), none]) X (dk D_Rf_run 53 rfl) rfl (nI_1 _) (by decide) rfl ?_
      refine v_goto (tgt := 65) X (dk D_Rf_run 54 rfl) (by decide) ?_
      exact ih (k + 1) _ (by omega) (zh.rI (by decide) (by decide)) ((gI_na (by decide)).trans f8) ((gI_na (by decide)).trans f9) (by rw [take_s (by omega)]; have h9 := rwA_snoc (x := T.getD k 0) hr; rw [List.length_take, Nat.min_eq_left (by omega)] at h9; exact h9)
  refine v_iload_n X (dk D_Rf_run 0 rfl) rfl ?_
  refine v_iconst (v := 1) X (dk D_Rf_run 1 rfl) (by decide) ?_
  refine v_icmp_lt (tgt := 12) X (dk D_Rf_run 2 rfl) (by decide) (fun c2 => absurd c2 (nI_nlt (b := 1) (by omega) (by omega))) (fun _ => ?_)
  refine v_iload_n X (dk D_Rf_run 3 rfl) rfl ?_
  refine v_ldcw X (dk D_Rf_run 4 rfl) C_Rf_381 ?_
  refine v_icmp_le (tgt := 14) X (dk D_Rf_run 5 rfl) (by decide) (fun _ => ?_) (fun c9 => absurd (nI_le (b := 400000) (by omega) (by decide)) c9)
  refine v_aload_n X (dk D_Rf_run 8 rfl) rfl ?_
  refine v_iconst (v := 0) X (dk D_Rf_run 9 rfl) (by decide) ?_
  refine v_putI X (dk D_Rf_run 10 rfl) F_Rf_72 CK_Rf rfl rfl (hS.lt (by decide)) rfl rfl ?_
  refine v_aload_n X (dk D_Rf_run 11 rfl) rfl ?_
  refine v_iconst (v := 0) X (dk D_Rf_run 12 rfl) (by decide) ?_
  refine v_putI X (dk D_Rf_run 13 rfl) F_Rf_75 CK_Rf rfl rfl (hS.lt (by decide)) rfl rfl ?_
  refine v_aload_n X (dk D_Rf_run 14 rfl) rfl ?_
  refine v_iconst (v := 0) X (dk D_Rf_run 15 rfl) (by decide) ?_
  refine v_putI X (dk D_Rf_run 16 rfl) F_Rf_88 CK_Rf rfl rfl (hS.lt (by decide)) rfl rfl ?_
  refine v_aload_n X (dk D_Rf_run 17 rfl) rfl ?_
  refine v_iconst (v := 0) X (dk D_Rf_run 18 rfl) (by decide) ?_
  refine v_putI X (dk D_Rf_run 19 rfl) F_Rf_382 CK_Rf rfl rfl (hS.lt (by decide)) rfl rfl ?_
  rw [← hgB]
  refine v_aload_n X (dk D_Rf_run 20 rfl) rfl ?_
  refine v_iconst (v := 1) X (dk D_Rf_run 21 rfl) (by decide) ?_
  refine v_putI X (dk D_Rf_run 22 rfl) F_Rf_94 CK_Rf rfl rfl (hSB.lt (by decide)) rfl rfl ?_
  refine v_aload_n X (dk D_Rf_run 23 rfl) rfl ?_
  refine v_iload_n X (dk D_Rf_run 24 rfl) rfl ?_
  refine v_putI X (dk D_Rf_run 25 rfl) F_Rf_81 CK_Rf rfl rfl (hSB.lt (by decide)) rfl rfl ?_
  refine v_aload_n X (dk D_Rf_run 26 rfl) rfl ?_
  refine v_aload_n X (dk D_Rf_run 27 rfl) rfl ?_
  refine v_getI X (dk D_Rf_run 28 rfl) F_Rf_68 rfl rfl (hSB.lt (by decide)) ?_
  rw [gI_nk (by decide), gI_nk (by decide), hO.2.1]
  refine v_putI X (dk D_Rf_run 29 rfl) F_Rf_91 CK_Rf rfl rfl (hSB.lt (by decide)) rfl rfl ?_
  refine v_aload_n X (dk D_Rf_run 30 rfl) rfl ?_
  refine v_ldc X (dk D_Rf_run 31 rfl) C_Rf_9 ?_
  refine v_aload_n X (dk D_Rf_run 32 rfl) rfl ?_
  refine v_getI X (dk D_Rf_run 33 rfl) F_Rf_91 rfl rfl (hSB.lt (by decide)) ?_
  rw [gI_eq]
  refine v_isub X (dk D_Rf_run 34 rfl) ?_
  rw [show (32768 : Int32) - nI T.length = nI (32768 - T.length) from pk_sub (a := 32768) (by omega)]
  refine v_putI X (dk D_Rf_run 35 rfl) F_Rf_78 CK_Rf rfl rfl (hSB.lt (by decide)) rfl rfl ?_
  refine v_iconst (v := nI 0) X (dk D_Rf_run 36 rfl) (by decide) ?_
  refine v_istore_n (lb := [some (.ref 1003), some (.int (nI fu)), some (.int (nI 0)), none]) X (dk D_Rf_run 37 rfl) (by decide) rfl ?_
  exact inp T.length 0 _ (by omega) zG1 f8 f9 (fun j hj => absurd hj (by rw [List.take_zero]; exact Nat.not_lt_zero _))
set_option maxHeartbeats 4000000 in
set_option maxRecDepth 100000 in
theorem r_run0 (l : Launch) (q : ev_T) {x : Int32} {g : mu_T} (hx : ¬ (¬ x < 1 ∧ x ≤ 400000)) : Ctr l q M_Rf_run 0 [.ref 1003, .int x] (0, 0, g) (fun v w => v = some (.int (-1)) ∧ w.2.2 = g) := by

  refine Ctr.mk (lb := [some (.ref 1003), some (.int x), none, none]) (by decide +kernel) (Nat.le_of_ble_eq_true rfl) rfl rfl ?_
  intro pp ee ss mm aa bb mt cd X hrt hlk hnm
  by_cases c : x < 1
  · skip
    refine v_iload_n X (dk D_Rf_run 0 rfl) rfl ?_
    refine v_iconst (v := 1) X (dk D_Rf_run 1 rfl) (by decide) ?_
    refine v_icmp_lt (tgt := 12) X (dk D_Rf_run 2 rfl) (by decide) (fun _ => ?_) (fun c2 => absurd c c2)
    refine v_iconst (v := -1) X (dk D_Rf_run 6 rfl) (by decide) ?_
    exact v_iret X hlk hrt (dk D_Rf_run 7 rfl) ⟨rfl, rfl⟩
  · skip
    refine v_iload_n X (dk D_Rf_run 0 rfl) rfl ?_
    refine v_iconst (v := 1) X (dk D_Rf_run 1 rfl) (by decide) ?_
    refine v_icmp_lt (tgt := 12) X (dk D_Rf_run 2 rfl) (by decide) (fun c2 => absurd c2 c) (fun _ => ?_)
    refine v_iload_n X (dk D_Rf_run 3 rfl) rfl ?_
    refine v_ldcw X (dk D_Rf_run 4 rfl) C_Rf_381 ?_
    refine v_icmp_le (tgt := 14) X (dk D_Rf_run 5 rfl) (by decide) (fun c9 => absurd c9 (fun z => hx ⟨c, z⟩)) (fun _ => ?_)
    refine v_iconst (v := -1) X (dk D_Rf_run 6 rfl) (by decide) ?_
    exact v_iret X hlk hrt (dk D_Rf_run 7 rfl) ⟨rfl, rfl⟩
