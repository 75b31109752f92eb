/-! Input: what is not read yet, how much of it is of the text, the fuel left, the line feeds passed -/
abbrev Ip : Type := List Int32 × Nat × Nat × Nat
def tkI : Ip → Ip
  | (x :: u, m, f + 1, n) => if u.length < m then (u, u.length, f, n + (if x &&& 255 = 10 then 1 else 0)) else (u, m, f, n)
  | I => I
def tkV : Ip → Int32
  | (x :: _, _, _ + 1, _) => x &&& 255
  | _ => -1
def IQ (g : mu_T) (fu : Nat) (I : Ip) : Prop := ∃ (T bk : List Int32) (ta : Nat), (∃ ov, RB g 1 2 32768 T ov) ∧ gR g 7 6 = some 1 ∧ ta ≤ T.length ∧ gI g 7 7 = nI ta ∧ I.1 = bk ++ T.drop ta ∧ I.2.1 = T.length - ta ∧ gI g 7 9 = nI (32768 - bk.length) ∧ (∀ j, j < bk.length → gI g 16 (32768 - bk.length + j) = bk.getD j 0) ∧ gI g 7 10 = nI fu ∧ fu < 2147483647 ∧ I.2.2.1 ≤ fu ∧ gI g 7 5 = nI (fu - I.2.2.1) ∧ gI g 7 11 = nI I.2.2.2 ∧ I.2.2.2 ≤ ta ∧ I.1.length ≤ 32768 ∧ ∀ x ∈ I.1, isByte x
theorem IQ.sm {g k : mu_T} {S : List Nat} {fu : Nat} {I : Ip} (h : IQ g fu I) (z : sm g k S) (h1 : 1 ∉ S) (h2 : 2 ∉ S) (h7 : 7 ∉ S) (h16 : 16 ∉ S) : IQ k fu I := by
  obtain ⟨T, bk, ta, ⟨ov, hT⟩, hr, ha1, hat, hu, hm, hba, hbk, hfu, hfl, hff, htk, hln, hl2, h3, hby⟩ := h
  exact ⟨T, bk, ta, ⟨ov, hT.sm z h1 h2⟩, by rw [z.R h7]; exact hr, ha1, by rw [z.I h7]; exact hat, hu, hm, by rw [z.I h7]; exact hba, fun j hj => by rw [z.I h16]; exact hbk j hj, by rw [z.I h7]; exact hfu, hfl, hff, by rw [z.I h7]; exact htk, by rw [z.I h7]; exact hln, hl2, h3, hby⟩
/-- a field of the input that holds no part of what is read may change -/
theorem IQ.kt {g : mu_T} {fu : Nat} {I : Ip} (h : IQ g fu I) (k : Nat) (x : Int32) (hk : k ≠ 5 ∧ k ≠ 7 ∧ k ≠ 9 ∧ k ≠ 10 ∧ k ≠ 11) : IQ (xI g 7 k x) fu I := by
  obtain ⟨T, bk, ta, ⟨ov, hT⟩, hr, ha1, hat, hu, hm, hba, hbk, hfu, hfl, hff, htk, hln, hl2, h3, hby⟩ := h
  obtain ⟨k5, k7, k9, k10, k11⟩ := hk
  exact ⟨T, bk, ta, ⟨ov, hT.sm ((sm.rf g [7]).xI (by simp)) (by decide) (by decide)⟩, hr, ha1, by rw [gI_nk (Ne.symm k7)]; exact hat, hu, hm, by rw [gI_nk (Ne.symm k9)]; exact hba, fun j hj => by rw [gI_na (by decide)]; exact hbk j hj, by rw [gI_nk (Ne.symm k10)]; exact hfu, hfl, hff, by rw [gI_nk (Ne.symm k5)]; exact htk, by rw [gI_nk (Ne.symm k11)]; exact hln, hl2, h3, hby⟩
/-- kind and tokenLine are the same -/
def kp (g k : mu_T) : Prop := gI k 7 3 = gI g 7 3 ∧ gI k 7 4 = gI g 7 4
theorem kp.rf (g : mu_T) : kp g g := ⟨rfl, rfl⟩
theorem kp.xI {g k : mu_T} {j : Nat} {x : Int32} (z : kp g k) (h : j ≠ 3 ∧ j ≠ 4) : kp g (xI k 7 j x) := ⟨(gI_nk (Ne.symm h.1)).trans z.1, (gI_nk (Ne.symm h.2)).trans z.2⟩
theorem kp.tr {g h k : mu_T} (z : kp g h) (y : kp h k) : kp g k := ⟨y.1.trans z.1, y.2.trans z.2⟩
theorem kp.sm {g h k : mu_T} {S : List Nat} (z : kp g h) (y : sm h k S) (h7 : 7 ∉ S) : kp g k := ⟨(y.I h7 3).trans z.1, (y.I h7 4).trans z.2⟩
theorem at_app {bk T : List Int32} {ta k : Nat} (ha : ta ≤ T.length) (hl : (bk ++ T.drop ta).length ≤ 32768) (hk : k < 1000000) (hT : T.length ≤ 32768) : (k < bk.length → atL (bk ++ T.drop ta) (nI k) = bk.getD k 0 &&& 255) ∧ (bk.length ≤ k → atL (bk ++ T.drop ta) (nI k) = atL T (nI (ta + (k - bk.length)))) := by
  have e : (bk ++ T.drop ta).length = bk.length + (T.length - ta) := by simp
  refine ⟨fun h => ?_, fun h => ?_⟩
  · rw [atL_nI (by omega) (by omega)]
    simp only [List.getD_eq_getElem?_getD]
    rw [List.getElem?_append_left h]
  · rcases Nat.lt_or_ge (ta + (k - bk.length)) T.length with y | y
    · rw [atL_nI (by omega) (by omega), atL_nI y (by omega)]
      simp only [List.getD_eq_getElem?_getD]
      rw [List.getElem?_append_right h, List.getElem?_drop]
    · rw [atL_out (by omega) (by omega), atL_out y (by omega)]
set_option maxHeartbeats 4000000 in
set_option maxRecDepth 100000 in
theorem k_line (l : Launch) (q : ev_T) {fu : Nat} {I : Ip} {g : mu_T} (hS : Shp g) (hI : IQ g fu I) : Ctr l q M_In_line 0 [.ref 7] (0, 0, g) (fun v w => v = some (.int (nI (I.2.2.2 + 1))) ∧ w.2.2 = g) := by
  obtain ⟨T, bk, ta, ⟨ov, hT⟩, hr, ha1, hat, hu, hm, hba, hbk, hfu, hfl, hff, htk, hln, hl2, h3, hby⟩ := hI
  have hT3 := hT.2.1
  have hul : I.1.length = bk.length + (T.length - ta) := by rw [hu]; simp
  refine Ctr.mk (lb := [some (.ref 7)]) (by decide +kernel) (Nat.le_of_ble_eq_true rfl) rfl rfl ?_
  intro pp ee ss mm aa bb mt cd X hrt hlk hnm
  refine v_aload_n X (dk D_In_line 0 rfl) rfl ?_
  refine v_getI X (dk D_In_line 1 rfl) F_In_44 rfl rfl (hS.lt (by decide)) ?_
  refine v_iconst (v := 1) X (dk D_In_line 2 rfl) (by decide) ?_
  refine v_iadd X (dk D_In_line 3 rfl) ?_
  exact v_iret X hlk hrt (dk D_In_line 4 rfl) ⟨by rw [hln, nI_1], rfl⟩
set_option maxHeartbeats 4000000 in
set_option maxRecDepth 100000 in
theorem k_left (l : Launch) (q : ev_T) {fu : Nat} {I : Ip} {g : mu_T} (hS : Shp g) (hI : IQ g fu I) : Ctr l q M_In_left 0 [.ref 7] (0, 0, g) (fun v w => v = some (.int (nI I.1.length)) ∧ w.2.2 = g) := by
  obtain ⟨T, bk, ta, ⟨ov, hT⟩, hr, ha1, hat, hu, hm, hba, hbk, hfu, hfl, hff, htk, hln, hl2, h3, hby⟩ := hI
  have hT3 := hT.2.1
  have hul : I.1.length = bk.length + (T.length - ta) := by rw [hu]; simp
  refine Ctr.mk (lb := [some (.ref 7)]) (by decide +kernel) (Nat.le_of_ble_eq_true rfl) rfl rfl ?_
  intro pp ee ss mm aa bb mt cd X hrt hlk hnm
  refine v_aload_n X (dk D_In_left 0 rfl) rfl ?_
  refine v_getF X (dk D_In_left 1 rfl) F_In_30 rfl rfl (hS.lt (by decide)) (hS.2 7 8) ?_
  refine v_alen (v := nI _) X (dk D_In_left 2 rfl) rfl rfl (hS.lt (by decide)) rfl ?_
  refine v_aload_n X (dk D_In_left 3 rfl) rfl ?_
  refine v_getI X (dk D_In_left 4 rfl) F_In_34 rfl rfl (hS.lt (by decide)) ?_
  refine v_isub X (dk D_In_left 5 rfl) ?_
  refine v_aload_n X (dk D_In_left 6 rfl) rfl ?_
  refine v_getR X (dk D_In_left 7 rfl) F_In_27 rfl rfl (hS.lt (by decide)) hr ?_
  refine v_getI X (dk D_In_left 8 rfl) F_In_59 rfl rfl (hS.lt (by decide)) ?_
  refine v_iadd X (dk D_In_left 9 rfl) ?_
  refine v_aload_n X (dk D_In_left 10 rfl) rfl ?_
  refine v_getI X (dk D_In_left 11 rfl) F_In_47 rfl rfl (hS.lt (by decide)) ?_
  refine v_isub X (dk D_In_left 12 rfl) ?_
  exact v_iret X hlk hrt (dk D_In_left 13 rfl) ⟨by rw [hba, pk_sub (by omega), hT.2.2.1, nI_add, hat, pk_sub (by omega), hul]; congr 3; omega, rfl⟩
set_option maxHeartbeats 4000000 in
set_option maxRecDepth 100000 in
theorem k_peek (l : Launch) (q : ev_T) {fu k : Nat} {I : Ip} {g : mu_T} (hS : Shp g) (hI : IQ g fu I) (hk : k < 1000000) : Ctr l q M_In_peek 1 [.ref 7, .int (nI k)] (0, 0, g) (fun v w => v = some (.int (atL I.1 (nI k))) ∧ w.2.2 = g) := by
  obtain ⟨T, bk, ta, ⟨ov, hT⟩, hr, ha1, hat, hu, hm, hba, hbk, hfu, hfl, hff, htk, hln, hl2, h3, hby⟩ := hI
  have hT3 := hT.2.1
  have hul : I.1.length = bk.length + (T.length - ta) := by rw [hu]; simp
  refine Ctr.mk (lb := [some (.ref 7), some (.int (nI k)), none]) (by decide +kernel) (Nat.le_of_ble_eq_true rfl) rfl rfl ?_
  intro pp ee ss mm aa bb mt cd X hrt hlk hnm
  refine v_aload_n X (dk D_In_peek 0 rfl) rfl ?_
  refine v_getI X (dk D_In_peek 1 rfl) F_In_34 rfl rfl (hS.lt (by decide)) ?_
  refine v_iload_n X (dk D_In_peek 2 rfl) rfl ?_
  refine v_iadd X (dk D_In_peek 3 rfl) ?_
  rw [hba, nI_add]
  refine v_istore_n (lb := [some (.ref 7), some (.int (nI k)), some (.int (nI (32768 - bk.length + k)))]) X (dk D_In_peek 4 rfl) (by decide) rfl ?_
  refine v_iload_n X (dk D_In_peek 5 rfl) rfl ?_
  refine v_if_lt (tgt := 31) X (dk D_In_peek 6 rfl) (by decide) (fun c8 => absurd c8 (nI_pos (by omega))) (fun _ => ?_)
  refine v_iload_n X (dk D_In_peek 7 rfl) rfl ?_
  refine v_aload_n X (dk D_In_peek 8 rfl) rfl ?_
  refine v_getF X (dk D_In_peek 9 rfl) F_In_30 rfl rfl (hS.lt (by decide)) (hS.2 7 8) ?_
  refine v_alen (v := nI _) X (dk D_In_peek 10 rfl) rfl rfl (hS.lt (by decide)) rfl ?_
  refine v_icmp_ge (tgt := 31) X (dk D_In_peek 11 rfl) (by decide) (fun c17 => ?_) (fun c17 => ?_)
  · refine v_aload_n X (dk D_In_peek 19 rfl) rfl ?_
    have hkb : bk.length ≤ k := by rcases Nat.lt_or_ge k bk.length with y | y; exact absurd c17 (nI_ge (b := 32768) (by omega) (by decide)); exact y
    refine v_getR X (dk D_In_peek 20 rfl) F_In_27 rfl rfl (hS.lt (by decide)) hr ?_
    refine v_aload_n X (dk D_In_peek 21 rfl) rfl ?_
    refine v_getI X (dk D_In_peek 22 rfl) F_In_47 rfl rfl (hS.lt (by decide)) ?_
    refine v_iload_n X (dk D_In_peek 23 rfl) rfl ?_
    refine v_iadd X (dk D_In_peek 24 rfl) ?_
    refine v_aload_n X (dk D_In_peek 25 rfl) rfl ?_
    refine v_getF X (dk D_In_peek 26 rfl) F_In_30 rfl rfl (hS.lt (by decide)) (hS.2 7 8) ?_
    refine v_alen (v := nI _) X (dk D_In_peek 27 rfl) rfl rfl (hS.lt (by decide)) rfl ?_
    refine v_isub X (dk D_In_peek 28 rfl) ?_
    rw [hat, nI_add, show nI (ta + (32768 - bk.length + k)) - nI 32768 = nI (ta + (k - bk.length)) from by rw [pk_sub (by omega)]; exact congrArg nI (by omega)]
    refine v_invV (As := [.int (nI (ta + (k - bk.length)))]) (st := []) X (k_at l q hT) (dk D_In_peek 29 rfl) G_In_62 K_By_at V_By_at rfl rfl (hS.lt (by decide)) rfl rfl (Nat.le_of_ble_eq_true rfl) (Nat.le_of_ble_eq_true rfl) (Nat.le_of_ble_eq_true rfl) (Nat.le_of_ble_eq_true rfl) (Nat.le_of_ble_eq_true rfl) ?_
    rintro v w ⟨rfl, hw⟩
    rw [hw]
    show Vv _ _ _ _ _ _ _ _ _ _ _ _ _ _ _ [.int (atL T (nI (ta + (k - bk.length))))] (0, 0, g)
    exact v_iret X hlk hrt (dk D_In_peek 30 rfl) ⟨by rw [hu, (at_app ha1 (by rw [← hu]; exact h3) hk hT3).2 hkb], rfl⟩
  · refine v_aload_n X (dk D_In_peek 12 rfl) rfl ?_
    have hkb : k < bk.length := by rcases Nat.lt_or_ge k bk.length with y | y; exact y; exact absurd (nI_le (show 32768 ≤ 32768 - bk.length + k by omega) (by omega)) c17
    refine v_getF X (dk D_In_peek 13 rfl) F_In_30 rfl rfl (hS.lt (by decide)) (hS.2 7 8) ?_
    refine v_iload_n X (dk D_In_peek 14 rfl) rfl ?_
    refine v_bald X (dk D_In_peek 15 rfl) rfl (hS.lt (by decide)) (vp_in_nI (show 32768 - bk.length + k < 32768 by omega) (by decide)) ?_
    refine v_sipush (v := 255) X (dk D_In_peek 16 rfl) (by decide) ?_
    refine v_iand X (dk D_In_peek 17 rfl) ?_
    exact v_iret X hlk hrt (dk D_In_peek 18 rfl) ⟨by rw [nI_clamp (by omega), hbk k hkb, hu, (at_app ha1 (by rw [← hu]; exact h3) hk hT3).1 hkb], rfl⟩
theorem n_take {g : mu_T} {fu : Nat} {bk T : List Int32} {ta m f n : Nat} {ov : Bool} {I : Ip} (hI : I = (bk ++ T.drop ta, m, f + 1, n)) (hT : RB g 1 2 32768 T ov) (hr : gR g 7 6 = some 1) (ha1 : ta ≤ T.length) (hat : gI g 7 7 = nI ta) (hm : m = T.length - ta) (hba : gI g 7 9 = nI (32768 - bk.length)) (hbk : ∀ j, j < bk.length → gI g 16 (32768 - bk.length + j) = bk.getD j 0) (hfu : gI g 7 10 = nI fu) (hfl : fu < 2147483647) (hff : f + 1 ≤ fu) (hln : gI g 7 11 = nI n) (hl2 : n ≤ ta) (h3 : (bk ++ T.drop ta).length ≤ 32768) (hby : ∀ x ∈ bk ++ T.drop ta, isByte x) :
    (0 < bk.length → bk.getD 0 0 &&& 255 = tkV I ∧ IQ (xI (xI g 7 5 (nI (fu - f))) 7 9 (nI (32768 - bk.length + 1))) fu (tkI I)) ∧
    (bk.length = 0 → ta < T.length → atL T (nI ta) = tkV I ∧ (atL T (nI ta) = 10 → IQ (xI (xI (xI g 7 5 (nI (fu - f))) 7 7 (nI (ta + 1))) 7 11 (nI (n + 1))) fu (tkI I)) ∧ (¬ atL T (nI ta) = 10 → IQ (xI (xI g 7 5 (nI (fu - f))) 7 7 (nI (ta + 1))) fu (tkI I))) := by
  subst hI
  have hT3 := hT.2.1
  have hz : ∀ k1 x1 k2 x2, sm g (xI (xI g 7 k1 x1) 7 k2 x2) [7] := fun _ _ _ _ => ((sm.rf g _).xI (by simp)).xI (by simp)
  refine ⟨fun h => ?_, fun h ht => ?_⟩
  · cases bk with
    | nil => exact absurd h (by decide)
    | cons x u =>
      refine ⟨rfl, ?_⟩
      have e : tkI (x :: u ++ T.drop ta, m, f + 1, n) = (u ++ T.drop ta, m, f, n) := if_neg (by simp; omega)
      have hl3 : u.length + 1 + (T.length - ta) ≤ 32768 := by rw [List.length_append, List.length_cons, List.length_drop] at h3; exact h3
      rw [e]
      refine ⟨T, u, ta, ⟨ov, hT.sm (hz _ _ _ _) (by decide) (by decide)⟩, hr, ha1, ?_, rfl, hm, ?_, fun j hj => ?_, ?_, hfl, by show f ≤ fu; omega, ?_, ?_, hl2, by simp; omega, fun y hy => hby y (by simp at hy ⊢; exact Or.inr hy)⟩
      · rw [gI_nk (by decide), gI_nk (by decide)]; exact hat
      · rw [gI_eq]; congr 1; simp; omega
      · rw [gI_na (by decide), gI_na (by decide)]
        have := hbk (j + 1) (by simp; omega)
        rw [show 32768 - u.length + j = 32768 - (x :: u).length + (j + 1) by simp; omega, this]
        simp
      · rw [gI_nk (by decide), gI_nk (by decide)]; exact hfu
      · rw [gI_nk (by decide), gI_eq]
      · rw [gI_nk (by decide), gI_nk (by decide)]; exact hln
  · have hb : bk = [] := List.length_eq_zero_iff.mp h
    subst hb
    have ed : T.drop ta = T.getD ta 0 :: T.drop (ta + 1) := by
      rw [List.getD_eq_getElem?_getD, List.getElem?_eq_getElem ht, Option.getD_some, List.getElem_cons_drop]
    have ea : atL T (nI ta) = T.getD ta 0 &&& 255 := atL_nI ht (by omega)
    have eu : ([] ++ T.drop ta : List Int32) = T.getD ta 0 :: T.drop (ta + 1) := ed
    rw [eu] at hby h3 ⊢
    have hV : tkV (T.getD ta 0 :: T.drop (ta + 1), m, f + 1, n) = T.getD ta 0 &&& 255 := rfl
    have e : tkI (T.getD ta 0 :: T.drop (ta + 1), m, f + 1, n) = (T.drop (ta + 1), (T.drop (ta + 1)).length, f, n + (if T.getD ta 0 &&& 255 = 10 then 1 else 0)) := if_pos (by rw [List.length_drop]; omega)
    refine ⟨by rw [hV, ea], fun h10 => ?_, fun h10 => ?_⟩
    · rw [ea] at h10
      rw [e, if_pos h10]
      refine ⟨T, [], ta + 1, ⟨ov, (hT.sm (hz _ _ _ _) (by decide) (by decide)).sm ((sm.rf _ [7]).xI (by simp)) (by decide) (by decide)⟩, hr, ht, ?_, rfl, by rw [List.length_drop], ?_, fun j hj => absurd hj (Nat.not_lt_zero _), ?_, hfl, by show f ≤ fu; omega, ?_, ?_, by show n + 1 ≤ ta + 1; omega, by show (T.drop (ta + 1)).length ≤ 32768; rw [List.length_drop]; omega, fun y hy => hby y (List.mem_cons_of_mem _ hy)⟩
      · rw [gI_nk (by decide), gI_eq]
      · rw [gI_nk (by decide), gI_nk (by decide), gI_nk (by decide)]; exact hba
      · rw [gI_nk (by decide), gI_nk (by decide), gI_nk (by decide)]; exact hfu
      · rw [gI_nk (by decide), gI_nk (by decide), gI_eq]
      · rw [gI_eq]
    · rw [ea] at h10
      rw [e, if_neg h10]
      refine ⟨T, [], ta + 1, ⟨ov, hT.sm (hz _ _ _ _) (by decide) (by decide)⟩, hr, ht, ?_, rfl, by rw [List.length_drop], ?_, fun j hj => absurd hj (Nat.not_lt_zero _), ?_, hfl, by show f ≤ fu; omega, ?_, ?_, by show n + 0 ≤ ta + 1; omega, by show (T.drop (ta + 1)).length ≤ 32768; rw [List.length_drop]; omega, fun y hy => hby y (List.mem_cons_of_mem _ hy)⟩
      · rw [gI_eq]
      · rw [gI_nk (by decide), gI_nk (by decide)]; exact hba
      · rw [gI_nk (by decide), gI_nk (by decide)]; exact hfu
      · rw [gI_nk (by decide), gI_eq]
      · rw [gI_nk (by decide), gI_nk (by decide)]; exact hln
theorem tk_no {I : Ip} (h : I.2.2.1 = 0 ∨ I.1 = []) : tkV I = -1 ∧ tkI I = I := by
  obtain ⟨u, m, f, n⟩ := I
  cases u with
  | nil => exact ⟨rfl, rfl⟩
  | cons x u =>
    cases f with
    | zero => exact ⟨rfl, rfl⟩
    | succ f => rcases h with h | h
                · exact absurd h (Nat.succ_ne_zero _)
                · exact absurd h (List.cons_ne_nil _ _)
theorem nI_gt0 {n : Nat} (h : 0 < n) (hn : n < 2147483648) : (0 : Int32) < nI n := nI_lt (a := 0) h hn
set_option maxHeartbeats 4000000 in
set_option maxRecDepth 100000 in
theorem k_In_take (l : Launch) (q : ev_T) {fu : Nat} {I : Ip} {g : mu_T} (hS : Shp g) (hI : IQ g fu I) : Ctr l q M_In_take 1 [.ref 7] (0, 0, g) (fun v w => v = some (.int (tkV I)) ∧ sm g w.2.2 [7] ∧ IQ w.2.2 fu (tkI I) ∧ kp g w.2.2) := by
  have hI0 := hI
  obtain ⟨T, bk, ta, ⟨ov, hT⟩, hr, ha1, hat, hu, hm, hba, hbk, hfu, hfl, hff, htk, hln, hl2, h3, hby⟩ := hI
  have hT3 := hT.2.1
  have hul : I.1.length = bk.length + (T.length - ta) := by rw [hu]; simp
  refine Ctr.mk (lb := [some (.ref 7), none]) (by decide +kernel) (Nat.le_of_ble_eq_true rfl) rfl rfl ?_
  intro pp ee ss mm aa bb mt cd X hrt hlk hnm
  refine v_aload_n X (dk D_In_take 0 rfl) rfl ?_
  refine v_getI X (dk D_In_take 1 rfl) F_In_41 rfl rfl (hS.lt (by decide)) ?_
  refine v_aload_n X (dk D_In_take 2 rfl) rfl ?_
  refine v_getI X (dk D_In_take 3 rfl) F_In_38 rfl rfl (hS.lt (by decide)) ?_
  refine v_icmp_ge (tgt := 18) X (dk D_In_take 4 rfl) (by decide) (fun c8 => ?_) (fun c8 => ?_)
  · refine v_iconst (v := -1) X (dk D_In_take 8 rfl) (by decide) ?_
    exact v_iret X hlk hrt (dk D_In_take 9 rfl) (by have e : tkV I = -1 ∧ tkI I = I := tk_no (Or.inl (by rw [htk, hfu] at c8; rcases Nat.eq_zero_or_pos I.2.2.1 with y | y; exact y; exact absurd c8 (nI_ge (by omega) (by omega)))); rw [e.1, e.2]; exact ⟨rfl, sm.rf _ _, hI0, kp.rf _⟩)
  · refine v_aload_n X (dk D_In_take 5 rfl) rfl ?_
    refine v_invV (As := []) (st := []) X (k_left l q hS hI0) (dk D_In_take 6 rfl) G_In_66 K_In_left V_In_left rfl rfl (hS.lt (by decide)) rfl rfl (Nat.le_of_ble_eq_true rfl) (Nat.le_of_ble_eq_true rfl) (Nat.le_of_ble_eq_true rfl) (Nat.le_of_ble_eq_true rfl) (Nat.le_of_ble_eq_true rfl) ?_
    rintro v w ⟨rfl, hw⟩
    rw [hw]
    show Vv _ _ _ _ _ _ _ _ _ _ _ _ _ _ _ [.int (nI I.1.length)] (0, 0, g)
    refine v_if_gt (tgt := 20) X (dk D_In_take 7 rfl) (by decide) (fun c15 => ?_) (fun c15 => ?_)
    · refine v_aload_n X (dk D_In_take 10 rfl) rfl ?_
      have hf1 : 0 < I.2.2.1 := by rw [htk, hfu] at c8; rcases Nat.eq_zero_or_pos I.2.2.1 with y | y; exact absurd (nI_le (show fu ≤ fu - I.2.2.1 by omega) (by omega)) c8; exact y
      have hu1 : 0 < I.1.length := by rcases Nat.eq_zero_or_pos I.1.length with y | y; rw [y] at c15; exact absurd c15 (by decide); exact y
      refine v_dup X (dk D_In_take 11 rfl) rfl ?_
      refine v_getI X (dk D_In_take 12 rfl) F_In_41 rfl rfl (hS.lt (by decide)) ?_
      refine v_iconst (v := 1) X (dk D_In_take 13 rfl) (by decide) ?_
      refine v_iadd X (dk D_In_take 14 rfl) ?_
      rw [htk, nI_1, show fu - I.2.2.1 + 1 = fu - (I.2.2.1 - 1) by omega]
      refine v_putI X (dk D_In_take 15 rfl) F_In_41 CK_In rfl rfl (hS.lt (by decide)) rfl rfl ?_
      have z1 : sm g (xI g 7 5 (nI (fu - (I.2.2.1 - 1)))) [7] := (sm.rf g _).xI (by simp)
      have hnt := n_take (g := g) (fu := fu) (bk := bk) (T := T) (ta := ta) (m := I.2.1) (f := I.2.2.1 - 1) (n := I.2.2.2) (I := I) (by obtain ⟨i1, i2, i3, i4⟩ := I; have e3 : i3 - 1 + 1 = i3 := Nat.sub_add_cancel hf1; show _ = (_, _, i3 - 1 + 1, _); rw [e3]; rw [show i1 = bk ++ T.drop ta from hu]) hT hr ha1 hat hm hba hbk hfu hfl (by omega) hln hl2 (by rw [← hu]; exact h3) (by rw [← hu]; exact hby)
      refine v_aload_n X (dk D_In_take 16 rfl) rfl ?_
      refine v_getI X (dk D_In_take 17 rfl) F_In_34 rfl rfl (hS.lt (by decide)) ?_
      refine v_if_lt (tgt := 75) X (dk D_In_take 18 rfl) (by decide) (fun c34 => absurd c34 (by rw [gI_nk (by decide), hba]; exact nI_pos (by omega))) (fun _ => ?_)
      refine v_aload_n X (dk D_In_take 19 rfl) rfl ?_
      refine v_getI X (dk D_In_take 20 rfl) F_In_34 rfl rfl (hS.lt (by decide)) ?_
      refine v_aload_n X (dk D_In_take 21 rfl) rfl ?_
      refine v_getF X (dk D_In_take 22 rfl) F_In_30 rfl rfl (hS.lt (by decide)) (hS.2 7 8) ?_
      refine v_alen (v := nI _) X (dk D_In_take 23 rfl) rfl rfl (hS.lt (by decide)) rfl ?_
      refine v_icmp_ge (tgt := 75) X (dk D_In_take 24 rfl) (by decide) (fun c46 => ?_) (fun c46 => ?_)
      · refine v_aload_n X (dk D_In_take 41 rfl) rfl ?_
        have hkb : bk.length = 0 := by rw [gI_nk (by decide), hba] at c46; rcases Nat.eq_zero_or_pos bk.length with y | y; exact y; exact absurd c46 (nI_ge (b := 32768) (by omega) (by decide))
        have hta : ta < T.length := by omega
        refine v_getR X (dk D_In_take 42 rfl) F_In_27 rfl rfl (hS.lt (by decide)) hr ?_
        refine v_aload_n X (dk D_In_take 43 rfl) rfl ?_
        refine v_getI X (dk D_In_take 44 rfl) F_In_47 rfl rfl (hS.lt (by decide)) ?_
        rw [gI_nk (by decide), hat]
        refine v_invV (As := [.int (nI ta)]) (st := []) X (k_at l q (hT.sm z1 (by decide) (by decide))) (dk D_In_take 45 rfl) G_In_62 K_By_at V_By_at rfl rfl (hS.lt (by decide)) rfl rfl (Nat.le_of_ble_eq_true rfl) (Nat.le_of_ble_eq_true rfl) (Nat.le_of_ble_eq_true rfl) (Nat.le_of_ble_eq_true rfl) (Nat.le_of_ble_eq_true rfl) ?_
        rintro v w ⟨rfl, hw⟩
        rw [hw]
        show Vv _ _ _ _ _ _ _ _ _ _ _ _ _ _ _ [.int (atL T (nI ta))] (0, 0, xI g 7 5 (nI (fu - (I.2.2.1 - 1))))
        refine v_istore_n (lb := [some (.ref 7), some (.int _)]) X (dk D_In_take 46 rfl) (by decide) rfl ?_
        refine v_aload_n X (dk D_In_take 47 rfl) rfl ?_
        refine v_dup X (dk D_In_take 48 rfl) rfl ?_
        refine v_getI X (dk D_In_take 49 rfl) F_In_47 rfl rfl (hS.lt (by decide)) ?_
        refine v_iconst (v := 1) X (dk D_In_take 50 rfl) (by decide) ?_
        refine v_iadd X (dk D_In_take 51 rfl) ?_
        rw [gI_nk (by decide), hat, nI_1]
        refine v_putI X (dk D_In_take 52 rfl) F_In_47 CK_In rfl rfl (hS.lt (by decide)) rfl rfl ?_
        refine v_iload_n X (dk D_In_take 53 rfl) rfl ?_
        refine v_bipush (v := 10) X (dk D_In_take 54 rfl) (by decide) ?_
        refine v_icmp_ne (tgt := 113) X (dk D_In_take 55 rfl) (by decide) (fun c100 => ?_) (fun c100 => ?_)
        · refine v_iload_n X (dk D_In_take 62 rfl) rfl ?_
          exact v_iret X hlk hrt (dk D_In_take 63 rfl) ⟨by rw [((hnt.2 hkb hta).1)], (((sm.rf g [7]).xI (by simp)).xI (by simp)), (hnt.2 hkb hta).2.2 c100, (((kp.rf g).xI (by decide)).xI (by decide))⟩
        · refine v_aload_n X (dk D_In_take 56 rfl) rfl ?_
          refine v_dup X (dk D_In_take 57 rfl) rfl ?_
          refine v_getI X (dk D_In_take 58 rfl) F_In_44 rfl rfl (hS.lt (by decide)) ?_
          refine v_iconst (v := 1) X (dk D_In_take 59 rfl) (by decide) ?_
          refine v_iadd X (dk D_In_take 60 rfl) ?_
          rw [gI_nk (by decide), gI_nk (by decide), hln, nI_1]
          refine v_putI X (dk D_In_take 61 rfl) F_In_44 CK_In rfl rfl (hS.lt (by decide)) rfl rfl ?_
          refine v_iload_n X (dk D_In_take 62 rfl) rfl ?_
          exact v_iret X hlk hrt (dk D_In_take 63 rfl) ⟨by rw [((hnt.2 hkb hta).1)], (((sm.rf g [7]).xI (by simp)).xI (by simp)).xI (by simp), (hnt.2 hkb hta).2.1 c100, (((kp.rf g).xI (by decide)).xI (by decide)).xI (by decide)⟩
      · refine v_aload_n X (dk D_In_take 25 rfl) rfl ?_
        have hkb : 0 < bk.length := by rw [gI_nk (by decide), hba] at c46; rcases Nat.eq_zero_or_pos bk.length with y | y; exact absurd (nI_le (show 32768 ≤ 32768 - bk.length by omega) (by omega)) c46; exact y
        refine v_getF X (dk D_In_take 26 rfl) F_In_30 rfl rfl (hS.lt (by decide)) (hS.2 7 8) ?_
        refine v_aload_n X (dk D_In_take 27 rfl) rfl ?_
        refine v_getI X (dk D_In_take 28 rfl) F_In_34 rfl rfl (hS.lt (by decide)) ?_
        rw [gI_nk (by decide), hba]
        refine v_bald X (dk D_In_take 29 rfl) rfl (hS.lt (by decide)) (vp_in_nI (show 32768 - bk.length < 32768 by omega) (by decide)) ?_
        refine v_sipush (v := 255) X (dk D_In_take 30 rfl) (by decide) ?_
        refine v_iand X (dk D_In_take 31 rfl) ?_
        rw [nI_clamp (by omega), gI_na (by decide), show gI g 16 (32768 - bk.length) = bk.getD 0 0 from hbk 0 hkb]
        refine v_istore_n (lb := [some (.ref 7), some (.int (bk.getD 0 0 &&& 255))]) X (dk D_In_take 32 rfl) (by decide) rfl ?_
        refine v_aload_n X (dk D_In_take 33 rfl) rfl ?_
        refine v_dup X (dk D_In_take 34 rfl) rfl ?_
        refine v_getI X (dk D_In_take 35 rfl) F_In_34 rfl rfl (hS.lt (by decide)) ?_
        refine v_iconst (v := 1) X (dk D_In_take 36 rfl) (by decide) ?_
        refine v_iadd X (dk D_In_take 37 rfl) ?_
        rw [gI_nk (by decide), hba, nI_1]
        refine v_putI X (dk D_In_take 38 rfl) F_In_34 CK_In rfl rfl (hS.lt (by decide)) rfl rfl ?_
        refine v_iload_n X (dk D_In_take 39 rfl) rfl ?_
        exact v_iret X hlk hrt (dk D_In_take 40 rfl) ⟨by rw [(hnt.1 hkb).1], (((sm.rf g [7]).xI (by simp)).xI (by simp)), (hnt.1 hkb).2, (((kp.rf g).xI (by decide)).xI (by decide))⟩
    · refine v_iconst (v := -1) X (dk D_In_take 8 rfl) (by decide) ?_
      exact v_iret X hlk hrt (dk D_In_take 9 rfl) (by have e : tkV I = -1 ∧ tkI I = I := tk_no (Or.inr (by rcases Nat.eq_zero_or_pos I.1.length with y | y; exact List.length_eq_zero_iff.mp y; exact absurd (nI_gt0 y (by omega)) c15)); rw [e.1, e.2]; exact ⟨rfl, sm.rf _ _, hI0, kp.rf _⟩)
