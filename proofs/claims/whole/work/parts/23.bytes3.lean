/-! Bytes: parts, texts and numbers behind a row -/
theorem p_over {g : mu_T} {b r n k f : Nat} {xs ys : List Int32} {ov : Bool} (hB : RB g b r n xs ov) (h : ov = true ∨ n < xs.length + k) : (none : Option Value) = none ∧ sm g (xI g b 2 1) [b, r] ∧ RB (xI g b 2 1) b r n (if ov = true ∨ n < xs.length + k then xs else xs ++ (ys.drop f).take k) (ov || decide (n < xs.length + k)) := by
  have hne := hB.1.ne
  obtain ⟨h1, h2, h3, h4, h5⟩ := hB
  have z : sm g (xI g b 2 1) [b, r] := (sm.rf g _).xI (by simp)
  refine ⟨rfl, z, ?_⟩
  rw [if_pos h]
  have e : (ov || decide (n < xs.length + k)) = true := by rcases h with h | h <;> simp [h]
  rw [e]
  exact ⟨h1.sm z, h2, (gI_nk (by decide)).trans h3, gI_eq _ _ _ _, fun j hj => (gI_na (Ne.symm hne)).trans (h5 j hj)⟩
theorem p_none {g : mu_T} {b r n k f : Nat} {xs ys : List Int32} {ov : Bool} (hB : RB g b r n xs ov) (h0 : ov = false) (hk : k = 0) (h2 : xs.length ≤ n) : (none : Option Value) = none ∧ sm g g [b, r] ∧ RB g b r n (if ov = true ∨ n < xs.length + k then xs else xs ++ (ys.drop f).take k) (ov || decide (n < xs.length + k)) := by
  subst h0; subst hk
  refine ⟨rfl, sm.rf _ _, ?_⟩
  simpa [Nat.not_lt.mpr h2] using hB
theorem p_some {g : mu_T} {b r n b2 r2 n2 k f : Nat} {xs ys : List Int32} {ov ov2 : Bool} (hB : RB g b r n xs ov) (hC : RB g b2 r2 n2 ys ov2) (h0 : ov = false) (hr : xs.length + k ≤ n) (hf : f + k ≤ ys.length) :
    (none : Option Value) = none ∧ sm g (xI (xA g r (va_cpy (gI g r2) (gI g r) f xs.length k)) b 1 (gI (xA g r (va_cpy (gI g r2) (gI g r) f xs.length k)) b 1 + nI k)) [b, r] ∧ RB (xI (xA g r (va_cpy (gI g r2) (gI g r) f xs.length k)) b 1 (gI (xA g r (va_cpy (gI g r2) (gI g r) f xs.length k)) b 1 + nI k)) b r n (if ov = true ∨ n < xs.length + k then xs else xs ++ (ys.drop f).take k) (ov || decide (n < xs.length + k)) := by
  have hne := hB.1.ne
  obtain ⟨h1, h2, h3, h4, h5⟩ := hB
  obtain ⟨i1, i2, i3, i4, i5⟩ := hC
  subst h0
  have z : sm g (xI (xA g r (va_cpy (gI g r2) (gI g r) f xs.length k)) b 1 (gI (xA g r (va_cpy (gI g r2) (gI g r) f xs.length k)) b 1 + nI k)) [b, r] := ((sm.rf g _).xA (by simp)).xI (by simp)
  refine ⟨rfl, z, ?_⟩
  have hnl : ¬ n < xs.length + k := by omega
  have hlen : (xs ++ (ys.drop f).take k).length = xs.length + k := by simp; omega
  rw [if_neg (by simp [hnl])]
  refine ⟨h1.sm z, by rw [hlen]; exact hr, ?_, ?_, fun j hj => ?_⟩
  · refine (gI_eq _ _ _ _).trans ?_
    rw [gI_nA hne, h3, nI_add, hlen]
  · refine (gI_nk (by decide)).trans ((gI_nA hne).trans (h4.trans ?_))
    simp [hnl]
  · rw [hlen] at hj
    refine (gI_na (Ne.symm hne)).trans ((gI_A _ _ _ _).trans ?_)
    simp only [va_cpy]
    by_cases hc : xs.length ≤ j
    · rw [if_pos ⟨hc, hj⟩, i5 _ (by omega)]
      simp only [List.getD_eq_getElem?_getD]
      rw [List.getElem?_append_right hc, List.getElem?_take, if_pos (by omega), List.getElem?_drop]
    · rw [if_neg (fun z => hc z.1), h5 j (by omega)]
      simp only [List.getD_eq_getElem?_getD]
      rw [List.getElem?_append_left (by omega)]
set_option maxHeartbeats 4000000 in
set_option maxRecDepth 100000 in
theorem k_addPart (l : Launch) (q : ev_T) {b r n b2 r2 n2 k f : Nat} {xs ys : List Int32} {ov ov2 : Bool} {g : mu_T} (hB : RB g b r n xs ov) (hC : RB g b2 r2 n2 ys ov2) (hf : f + k ≤ ys.length) (hnn : n < 1073741824) (hn2n : n2 < 1073741824) : Ctr l q M_By_addPart 1 [.ref b, .ref b2, .int (nI f), .int (nI k)] (0, 0, g) (fun v w => v = none ∧ sm g w.2.2 [b, r] ∧ RB w.2.2 b r n (if ov = true ∨ n < xs.length + k then xs else xs ++ (ys.drop f).take k) (ov || decide (n < xs.length + k))) := by
  have hB0 := hB
  have hC0 := hC
  obtain ⟨h1, h2, h3, h4, h5⟩ := hB0
  obtain ⟨hk, ha, hF, hkr, har, hn⟩ := h1
  obtain ⟨hz1, hz2, hz3, hz4, hz5⟩ := hC0
  obtain ⟨hk2, ha2, hF2, hkr2, har2, hn2⟩ := hz1
  have hl1 := hB.lt
  have hl2 := hC.lt
  have hkn : k < 1073741824 := by omega
  refine Ctr.mk (lb := [some (.ref b), some (.ref b2), some (.int (nI f)), some (.int (nI k))]) (by decide +kernel) (Nat.le_of_ble_eq_true rfl) rfl rfl ?_
  intro p e s m args below meth c X hrt hlk hnm
  refine v_aload_n X (dk D_By_addPart 0 rfl) rfl ?_
  refine v_getI X (dk D_By_addPart 1 rfl) F_By_25 rfl hk ha ?_
  refine v_if_ne (tgt := 15) X (dk D_By_addPart 2 rfl) (by decide) (fun c4 => ?_) (fun c4 => ?_)
  · refine v_aload_n X (dk D_By_addPart 7 rfl) rfl ?_
    refine v_iconst (v := 1) X (dk D_By_addPart 8 rfl) (by decide) ?_
    refine v_putI X (dk D_By_addPart 9 rfl) F_By_25 CK_By rfl hk ha rfl rfl ?_
    exact v_vret X hlk hrt (dk D_By_addPart 10 rfl) (p_over hB (by rw [h4] at c4; cases ov; exact absurd rfl c4; exact Or.inl rfl))
  · refine v_aload_n X (dk D_By_addPart 3 rfl) rfl ?_
    refine v_iload_n X (dk D_By_addPart 4 rfl) rfl ?_
    refine v_invV (As := [.int (nI k)]) (st := []) X (k_hasRoom l q (k := k) hB hkn hnn) (dk D_By_addPart 5 rfl) G_By_29 K_By_hasRoom V_By_hasRoom hk rfl ha rfl rfl (Nat.le_of_ble_eq_true rfl) (Nat.le_of_ble_eq_true rfl) (Nat.le_of_ble_eq_true rfl) (Nat.le_of_ble_eq_true rfl) (Nat.le_of_ble_eq_true rfl) ?_
    rintro v w ⟨rfl, hw⟩
    rw [hw]
    show Vv _ _ _ _ _ _ _ _ _ _ _ _ _ _ _ [.int (if xs.length + k ≤ n then 1 else 0)] (0, 0, g)
    refine v_if_ne (tgt := 21) X (dk D_By_addPart 6 rfl) (by decide) (fun c12 => ?_) (fun c12 => ?_)
    · refine v_iload_n X (dk D_By_addPart 11 rfl) rfl ?_
      refine v_if_lt (tgt := 66) X (dk D_By_addPart 12 rfl) (by decide) (fun c22 => absurd c22 (nI_pos (by omega))) (fun _ => ?_)
      refine v_iload_n X (dk D_By_addPart 13 rfl) rfl ?_
      refine v_if_le (tgt := 66) X (dk D_By_addPart 14 rfl) (by decide) (fun c26 => ?_) (fun c26 => ?_)
      · exact v_vret X hlk hrt (dk D_By_addPart 36 rfl) (p_none hB (by cases ov; rfl; rw [h4] at c4; exact absurd c4 (by decide)) (by rcases Nat.eq_zero_or_pos k with z | z; exact z; exact absurd c26 (nI_nle z (by omega))) (by omega))
      · refine v_iload_n X (dk D_By_addPart 15 rfl) rfl ?_
        refine v_aload_n X (dk D_By_addPart 16 rfl) rfl ?_
        refine v_getI X (dk D_By_addPart 17 rfl) F_By_21 rfl hk2 ha2 ?_
        refine v_iload_n X (dk D_By_addPart 18 rfl) rfl ?_
        refine v_isub X (dk D_By_addPart 19 rfl) ?_
        refine v_icmp_gt (tgt := 66) X (dk D_By_addPart 20 rfl) (by decide) (fun c36 => absurd c36 (by rw [hz3, pk_sub (by omega)]; exact nI_nlt (by omega) (by omega))) (fun _ => ?_)
        refine v_aload_n X (dk D_By_addPart 21 rfl) rfl ?_
        refine v_getF X (dk D_By_addPart 22 rfl) F_By_15 rfl hk2 ha2 hF2 ?_
        refine v_iload_n X (dk D_By_addPart 23 rfl) rfl ?_
        refine v_aload_n X (dk D_By_addPart 24 rfl) rfl ?_
        refine v_getF X (dk D_By_addPart 25 rfl) F_By_15 rfl hk ha hF ?_
        refine v_aload_n X (dk D_By_addPart 26 rfl) rfl ?_
        refine v_getI X (dk D_By_addPart 27 rfl) F_By_21 rfl hk ha ?_
        refine v_iload_n X (dk D_By_addPart 28 rfl) rfl ?_
        have hroom : xs.length + k ≤ n := by
          by_cases z : xs.length + k ≤ n
          · exact z
          · rw [if_neg z] at c12; exact absurd rfl c12
        refine v_copy (t := 0) (ty := .int) X (dk D_By_addPart 29 rfl) G_By_33 W_acN W_acS W_sysI hkr2 hkr har2 har (nI_pos (by omega)) (by rw [h3]; exact nI_pos (by omega)) (nI_pos (by omega)) (by rw [nI_clamp (by omega), nI_clamp (by omega)]; omega) (by rw [h3, nI_clamp (by omega), nI_clamp (by omega)]; omega) (Nat.le_of_ble_eq_true rfl) (Nat.le_of_ble_eq_true rfl) (Nat.le_of_ble_eq_true rfl) (by rw [h3, nI_clamp (by omega), nI_clamp (by omega), nI_clamp (by omega)]) ?_
        refine v_aload_n X (dk D_By_addPart 30 rfl) rfl ?_
        refine v_dup X (dk D_By_addPart 31 rfl) rfl ?_
        refine v_getI X (dk D_By_addPart 32 rfl) F_By_21 rfl hk ha ?_
        refine v_iload_n X (dk D_By_addPart 33 rfl) rfl ?_
        refine v_iadd X (dk D_By_addPart 34 rfl) ?_
        refine v_putI X (dk D_By_addPart 35 rfl) F_By_21 CK_By rfl hk ha rfl rfl ?_
        exact v_vret X hlk hrt (dk D_By_addPart 36 rfl) (p_some hB hC (by cases ov; rfl; rw [h4] at c4; exact absurd c4 (by decide)) (by by_cases z : xs.length + k ≤ n; exact z; rw [if_neg z] at c12; exact absurd rfl c12) hf)
    · refine v_aload_n X (dk D_By_addPart 7 rfl) rfl ?_
      refine v_iconst (v := 1) X (dk D_By_addPart 8 rfl) (by decide) ?_
      refine v_putI X (dk D_By_addPart 9 rfl) F_By_25 CK_By rfl hk ha rfl rfl ?_
      exact v_vret X hlk hrt (dk D_By_addPart 10 rfl) (p_over hB (Or.inr (by by_cases z : xs.length + k ≤ n; rw [if_pos z] at c12; exact absurd c12 (by decide); omega)))
theorem tk_all (l : List Int32) : l.take l.length = l := List.take_length
theorem tk_one (l : List Int32) {k : Nat} (h : k < l.length) : l.take (k + 1) = l.take k ++ [l.getD k 0] := by
  rw [List.getD_eq_getElem?_getD, List.getElem?_eq_getElem h, Option.getD_some, List.take_add_one, List.getElem?_eq_getElem h]
  rfl
theorem sxc_b : ∀ i, i < 38 → ∀ j, j < 12 → (sxc i j).toInt8.toInt32 = sxc i j := by decide +kernel
set_option maxHeartbeats 4000000 in
set_option maxRecDepth 100000 in
theorem k_addText (l : Launch) (q : ev_T) {b r n i : Nat} {xs : List Int32} {ov : Bool} {g : mu_T} (hB : RB g b r n xs ov) (hi : i < 38) : Ctr l q M_By_addText 4 [.ref b, .ref (1048640 + i)] (0, 0, g) (fun v w => v = none ∧ sm g w.2.2 [b, r] ∧ RB w.2.2 b r n (adL n (xs, ov) (sx_B.getD i [])).1 (adL n (xs, ov) (sx_B.getD i [])).2) := by
  have hsl := sxl_lt i hi
  refine Ctr.mk (lb := [some (.ref b), some (.ref (1048640 + i)), none]) (by decide +kernel) (Nat.le_of_ble_eq_true rfl) rfl rfl ?_
  intro p e s m args below meth c X hrt hlk hnm
  have loop : ∀ (d k : Nat) (h : mu_T), k + d = sxl i → sm g h [b, r] → RB h b r n (adL n (xs, ov) ((sx_B.getD i []).take k)).1 (adL n (xs, ov) ((sx_B.getD i []).take k)).2 → Vv p l e (rmT 4 0 0) s m args below meth c 3 q (MQ below (Qw q (fun v w => v = none ∧ sm g w.2.2 [b, r] ∧ RB w.2.2 b r n (adL n (xs, ov) (sx_B.getD i [])).1 (adL n (xs, ov) (sx_B.getD i [])).2)) args s 0 0 (fun a => q.1 ≤ a)) 2 [some (.ref b), some (.ref (1048640 + i)), some (.int (nI k))] [] (0, 0, h) := by
    intro d
    induction d with
    | zero =>
      intro k h hkd hs hR
      refine v_iload_n X (dk D_By_addText 2 rfl) rfl ?_
      refine v_aload_n X (dk D_By_addText 3 rfl) rfl ?_
      refine v_invVS (As := []) (st := [.int (nI k)]) X (c_St_length l q (g := h) hi) (dk D_By_addText 4 rfl) (ML.p G_By_39 (by decide +kernel)) K_St_length V_St_length (X.sf.2.2.1 i hi).1 rfl rfl (Nat.le_of_ble_eq_true rfl) (Nat.le_of_ble_eq_true rfl) (Nat.le_of_ble_eq_true rfl) (Nat.le_of_ble_eq_true rfl) (Nat.le_of_ble_eq_true rfl) ?_
      rintro v w ⟨rfl, hw⟩
      rw [hw]
      show Vv _ _ _ _ _ _ _ _ _ _ _ _ _ _ _ [.int (nI (sxl i)), .int (nI k)] (0, 0, h)
      refine v_icmp_ge (tgt := 25) X (dk D_By_addText 5 rfl) (by decide) (fun _ => ?_) (fun c7 => absurd (nI_le (by omega) (by omega)) c7)
      exact v_vret X hlk hrt (dk D_By_addText 13 rfl) ⟨rfl, hs, by rw [← tk_all (sx_B.getD i [])]; rw [show (sx_B.getD i []).length = k from by show sxl i = k; omega]; exact hR⟩
    | succ d ih =>
      intro k h hkd hs hR
      refine v_iload_n X (dk D_By_addText 2 rfl) rfl ?_
      refine v_aload_n X (dk D_By_addText 3 rfl) rfl ?_
      refine v_invVS (As := []) (st := [.int (nI k)]) X (c_St_length l q (g := h) hi) (dk D_By_addText 4 rfl) (ML.p G_By_39 (by decide +kernel)) K_St_length V_St_length (X.sf.2.2.1 i hi).1 rfl rfl (Nat.le_of_ble_eq_true rfl) (Nat.le_of_ble_eq_true rfl) (Nat.le_of_ble_eq_true rfl) (Nat.le_of_ble_eq_true rfl) (Nat.le_of_ble_eq_true rfl) ?_
      rintro v w ⟨rfl, hw⟩
      rw [hw]
      show Vv _ _ _ _ _ _ _ _ _ _ _ _ _ _ _ [.int (nI (sxl i)), .int (nI k)] (0, 0, h)
      refine v_icmp_ge (tgt := 25) X (dk D_By_addText 5 rfl) (by decide) (fun c7 => absurd c7 (nI_ge (by omega) (by omega))) (fun _ => ?_)
      refine v_aload_n X (dk D_By_addText 6 rfl) rfl ?_
      refine v_aload_n X (dk D_By_addText 7 rfl) rfl ?_
      refine v_iload_n X (dk D_By_addText 8 rfl) rfl ?_
      refine v_invVS (As := [.int (nI k)]) (st := [.ref b]) X (c_St_charAt l q (g := h) hi (by omega)) (dk D_By_addText 9 rfl) (ML.p G_By_45 (by decide +kernel)) K_St_charAt V_St_charAt (X.sf.2.2.1 i hi).1 rfl rfl (Nat.le_of_ble_eq_true rfl) (Nat.le_of_ble_eq_true rfl) (Nat.le_of_ble_eq_true rfl) (Nat.le_of_ble_eq_true rfl) (Nat.le_of_ble_eq_true rfl) ?_
      rintro v w ⟨rfl, hw⟩
      rw [hw]
      show Vv _ _ _ _ _ _ _ _ _ _ _ _ _ _ _ [.int (sxc i k), .ref b] (0, 0, h)
      refine v_invV (As := [.int (sxc i k)]) (st := []) X (k_add l q (x := sxc i k) hR) (dk D_By_addText 10 rfl) G_By_49 K_By_add V_By_add hR.1.1 rfl hR.1.2.1 rfl rfl (Nat.le_of_ble_eq_true rfl) (Nat.le_of_ble_eq_true rfl) (Nat.le_of_ble_eq_true rfl) (Nat.le_of_ble_eq_true rfl) (Nat.le_of_ble_eq_true rfl) ?_
      rintro v w ⟨rfl, hw1, hw2⟩
      show Vv _ _ _ _ _ _ _ _ _ _ _ _ _ _ _ [] (0, 0, w.2.2)
      refine v_iinc (v := nI (k + 1)) (lb := [some (.ref b), some (.ref (1048640 + i)), some (.int (nI (k + 1)))]) X (dk D_By_addText 11 rfl) rfl (nI_1 k) (by decide) rfl ?_
      refine v_goto (tgt := 2) X (dk D_By_addText 12 rfl) (by decide) ?_
      exact ih (k + 1) _ (by omega) (hs.tr hw1 (fun _ z => z) (fun _ z => z)) (by rw [tk_one _ (show k < (sx_B.getD i []).length by show k < sxl i; omega), adL_app]; have e : (sxc i k).toInt8.toInt32 = sxc i k := sxc_b i hi k (by omega); rw [e] at hw2; exact hw2)
  refine v_iconst (v := 0) X (dk D_By_addText 0 rfl) (by decide) ?_
  refine v_istore_n (lb := [some (.ref b), some (.ref (1048640 + i)), some (.int 0)]) X (dk D_By_addText 1 rfl) (by decide) rfl ?_
  exact loop (sxl i) 0 g (by omega) (sm.rf g _) hB
