/-! Cells.join, Cells.release -/
theorem loosen_facts (g : mu_T) (k : Nat) : sm g (xI (xI (xI g k 0 (-1)) k 1 (-1)) k 2 0) [k] ∧ gI (xI (xI (xI g k 0 (-1)) k 1 (-1)) k 2 0) k 0 = -1 ∧ gI (xI (xI (xI g k 0 (-1)) k 1 (-1)) k 2 0) k 1 = -1 ∧ gI (xI (xI (xI g k 0 (-1)) k 1 (-1)) k 2 0) k 2 = 0 :=
  ⟨(((sm.rf g _).xI (by simp)).xI (by simp)).xI (by simp), by rw [gI_nk (by decide), gI_nk (by decide), gI_eq], by rw [gI_nk (by decide), gI_eq], gI_eq _ _ _ _⟩
theorem CH.nil {g : mu_T} {rn h : Nat} (i : isH g h) (h0 : gI g h 0 = -1) (h1 : gI g h 1 = -1) (h2 : gI g h 2 = 0) : CH g rn h [] := ⟨i, h2, fun _ => ⟨h0, h1⟩, fun qs p e => absurd e (by simp)⟩
theorem nodup_app {a b : List Nat} (ha : a.Nodup) (hb : b.Nodup) (h : ∀ x, x ∈ a → x ∉ b) : (a ++ b).Nodup := List.nodup_append.mpr ⟨ha, hb, fun x hx y hy e => h x hx (by rw [e]; exact hy)⟩
/-- chain k behind chain h -/
theorem CW.join {g u : mu_T} {c rb rn N h k fr : Nat} {S fl : List Nat} {ch : Nat → List Nat} (w : CW g c rb rn N S ch fl fr) (hh : h ∈ S) (hk : k ∈ S) (hhk : h ≠ k) (hne : ch k ≠ []) (z : sm g u [rn, h, k])
    (k0 : gI u k 0 = -1) (k1 : gI u k 1 = -1) (k2 : gI u k 2 = 0) (l1 : gI u h 1 = gI g k 1) (l2 : gI u h 2 = gI g h 2 + gI g k 2) (l0 : gI u h 0 = if gI g h 1 < 0 then gI g k 0 else gI g h 0)
    (hn : ∀ x, gI u rn x = if ¬ gI g h 1 < 0 ∧ x = (gI g h 1).toNatClampNeg then gI g k 0 else gI g rn x) : CW u c rb rn N S (va_up (va_up ch h (ch h ++ ch k)) k []) fl fr := by
  obtain ⟨i1, i2, i3, i4, i5⟩ := w.ids
  obtain ⟨hC, hS, hcS, hch, w2, w3, w4, w5, w6, w7, w8, w9, w10⟩ := w
  have hN := hC.2.2.2.2.2.2.2.2
  have jc : c ∉ [rn, h, k] := by
    simp only [List.mem_cons, List.not_mem_nil, or_false]
    rintro (e | e | e)
    · exact i4 e
    · exact hcS (by rw [e]; exact hh)
    · exact hcS (by rw [e]; exact hk)
  have hlast : ∀ j ∈ S, ∀ qs q, ch j = qs ++ [q] → gI g j 1 = nI q ∧ q < N := fun j hj qs q e => ⟨((hch j hj).2.2.2 qs q e).1, by have := ((w9 j hj).2 q (by rw [e]; simp)).1; omega⟩
  have hkeep : ∀ x, (∀ qs q, ch h = qs ++ [q] → x ≠ q) → gI u rn x = gI g rn x := fun x hx => by
    rw [hn, if_neg]
    rintro ⟨a1, a2⟩
    rcases snoc_or (ch h) with e | ⟨qs, q, e⟩
    · exact a1 (by rw [((hch h hh).2.2.1 e).2]; decide)
    · rw [(hlast h hh qs q e).1, nI_clamp (by have := (hlast h hh qs q e).2; omega)] at a2
      exact hx qs q e a2
  have hnoth : ∀ j ∈ S, j ≠ h → ∀ x ∈ ch j, gI u rn x = gI g rn x := fun j hj hjh x hx => hkeep x (fun qs q e e2 => hjh (w10 j hj h hh x hx (by rw [e, e2]; simp)))
  have hup : ∀ j, va_up (va_up ch h (ch h ++ ch k)) k [] j = if j = k then [] else if j = h then ch h ++ ch k else ch j := fun j => rfl
  have htot : tot S (va_up (va_up ch h (ch h ++ ch k)) k []) = tot S ch := by
    have t1 := tot_up (ch := ch) (x := ch h ++ ch k) hS hh
    have t2 := tot_up (ch := va_up ch h (ch h ++ ch k)) (x := []) hS hk
    rw [va_up_ne' (Ne.symm hhk), List.length_nil] at t2
    rw [List.length_append] at t1
    omega
  refine ⟨hC.sm z, hS, hcS, fun j hj => ?_, by rw [z.I jc]; exact w2, ?_, by rw [z.I jc, htot]; exact w4, w5, by rw [htot]; exact w6, w7, w8, fun j hj => ?_, fun j hj i hi x hx hy => ?_⟩
  · rw [hup]
    by_cases hjk : j = k
    · subst hjk
      rw [if_pos rfl]
      exact CH.nil ((hch j hj).1.sm z) k0 k1 k2
    · rw [if_neg hjk]
      by_cases hjh : j = h
      · subst hjh
        rw [if_pos rfl]
        obtain ⟨y1, y2, y3, y4⟩ := hch j hj
        obtain ⟨x1, x2, x3, x4⟩ := hch k hk
        rcases snoc_or (ch k) with e | ⟨us, v, e⟩
        · exact absurd e hne
        obtain ⟨x5, d, x6⟩ := x4 us v e
        refine ⟨y1.sm z, by rw [l2, y2, x2, nI_add, List.length_append], fun e2 => absurd (List.append_eq_nil_iff.mp e2).2 hne, fun qs p hqp => ?_⟩
        have hp : p = v := by
          rw [e, ← List.append_assoc] at hqp
          exact (snoc_inj hqp).2.symm
        refine ⟨by rw [l1, x5, hp], d, ?_⟩
        have x7 : lkf (gI u rn) (ch k) d (gI g k 0) := lkf_same (fun x hx => hnoth k hk (Ne.symm hhk) x hx) x6
        rcases snoc_or (ch j) with e2 | ⟨ws, t, e2⟩
        · rw [l0, if_pos (by rw [(y3 e2).2]; decide), e2, List.nil_append]
          exact x7
        · obtain ⟨y5, d2, y6⟩ := y4 ws t e2
          have ht := (hlast j hj ws t e2).2
          rw [l0, if_neg (by rw [y5]; exact nI_pos (by omega))]
          refine lkf_app (d := gI g k 0) ?_ x7
          have hv : t ∉ ws := by
            have := (w9 j hj).1
            rw [e2] at this
            exact fun hv => (List.nodup_append.mp this).2.2 t hv t (by simp) rfl
          rw [e2] at y6 ⊢
          refine lkf_end y6 hv (fun x hx => hkeep x (fun qs q e3 e4 => ?_)) (by rw [hn, if_pos ⟨by rw [y5]; exact nI_pos (by omega), by rw [y5, nI_clamp (by omega)]⟩])
          rw [e2] at e3
          exact hv (by rw [(snoc_inj e3).2, ← e4]; exact hx)
      · rw [if_neg hjh]
        refine (hch j hj).keep z ?_ (fun x hx => hnoth j hj hjh x hx)
        simp only [List.mem_cons, List.not_mem_nil, or_false]
        rintro (e | e | e)
        · exact i2 (by rw [← e]; exact hj)
        · exact hjh e
        · exact hjk e
  · rw [z.I jc]
    refine lkf_same (fun x hx => hkeep x (fun qs q e e2 => ?_)) w3
    exact ((w9 h hh).2 q (by rw [e]; simp)).2 (by rw [← e2]; exact hx)
  · rw [hup]
    by_cases hjk : j = k
    · rw [if_pos hjk]; exact ⟨List.nodup_nil, fun x hx => absurd hx List.not_mem_nil⟩
    · rw [if_neg hjk]
      by_cases hjh : j = h
      · rw [if_pos hjh]
        refine ⟨nodup_app (w9 h hh).1 (w9 k hk).1 (fun x hx hy => hhk (w10 h hh k hk x hx hy)), fun x hx => ?_⟩
        rcases List.mem_append.mp hx with hx | hx
        · exact (w9 h hh).2 x hx
        · exact (w9 k hk).2 x hx
      · rw [if_neg hjh]; exact w9 j hj
  · have key : ∀ j ∈ S, x ∈ va_up (va_up ch h (ch h ++ ch k)) k [] j → j ≠ k ∧ (x ∈ ch j ∨ (j = h ∧ x ∈ ch k)) := fun j hj hx => by
      rw [hup] at hx
      by_cases hjk : j = k
      · rw [if_pos hjk] at hx; exact absurd hx List.not_mem_nil
      · rw [if_neg hjk] at hx
        refine ⟨hjk, ?_⟩
        by_cases hjh : j = h
        · rw [if_pos hjh] at hx
          rcases List.mem_append.mp hx with hx | hx
          · exact Or.inl (by rw [hjh]; exact hx)
          · exact Or.inr ⟨hjh, hx⟩
        · rw [if_neg hjh] at hx; exact Or.inl hx
    obtain ⟨a1, a2⟩ := key j hj hx
    obtain ⟨b1, b2⟩ := key i hi hy
    rcases a2 with a2 | ⟨a2, a3⟩ <;> rcases b2 with b2 | ⟨b2, b3⟩
    · exact w10 j hj i hi x a2 b2
    · exact absurd (w10 j hj k hk x a2 b3) a1
    · exact absurd (w10 i hi k hk x b2 a3) b1
    · rw [a2, b2]
/-- the cells of chain h are free -/
theorem CW.free {g u : mu_T} {c rb rn N h fr : Nat} {S fl : List Nat} {ch : Nat → List Nat} (w : CW g c rb rn N S ch fl fr) (hh : h ∈ S) (hne : ch h ≠ []) (z : sm g u [c, rn, h])
    (k0 : gI u h 0 = -1) (k1 : gI u h 1 = -1) (k2 : gI u h 2 = 0) (e2 : gI u c 2 = gI g c 2) (e3 : gI u c 3 = gI g h 0) (e4 : gI u c 4 = gI g c 4 - gI g h 2) (hn : ∀ x, gI u rn x = if x = (gI g h 1).toNatClampNeg then gI g c 3 else gI g rn x) : CW u c rb rn N S (va_up ch h []) (ch h ++ fl) fr := by
  obtain ⟨i1, i2, i3, i4, i5⟩ := w.ids
  obtain ⟨hC, hS, hcS, hch, w2, w3, w4, w5, w6, w7, w8, w9, w10⟩ := w
  have hN := hC.2.2.2.2.2.2.2.2
  rcases snoc_or (ch h) with e | ⟨us, v, e⟩
  · exact absurd e hne
  obtain ⟨y1, y2, y3, y4⟩ := hch h hh
  obtain ⟨y5, d, y6⟩ := y4 us v e
  have hv : v < N := by have := ((w9 h hh).2 v (by rw [e]; simp)).1; omega
  have hn' : ∀ x, gI u rn x = if x = v then gI g c 3 else gI g rn x := fun x => by rw [hn, y5, nI_clamp (by omega)]
  have hkeep : ∀ x, x ≠ v → gI u rn x = gI g rn x := fun x hx => by rw [hn', if_neg hx]
  have hvin : v ∈ ch h := by rw [e]; simp
  have htot : tot S (va_up ch h []) + (ch h).length = tot S ch := by
    have t1 := tot_up (ch := ch) (x := []) hS hh
    rw [List.length_nil] at t1
    omega
  refine ⟨hC.sm z, hS, hcS, fun j hj => ?_, by rw [e2]; exact w2, ?_, ?_, w5, by rw [List.length_append]; omega, fun p hp => ?_, nodup_app (w9 h hh).1 w8 (fun x hx => ((w9 h hh).2 x hx).2), fun j hj => ?_, fun j hj i hi x hx hy => ?_⟩
  · by_cases hjh : j = h
    · subst hjh
      rw [va_up_eq]
      exact CH.nil (y1.sm z) k0 k1 k2
    · rw [va_up_ne' hjh]
      refine (hch j hj).keep z ?_ (fun x hx => hkeep x (fun e2 => hjh (w10 j hj h hh x hx (by rw [e2]; exact hvin))))
      simp only [List.mem_cons, List.not_mem_nil, or_false]
      rintro (e | e | e)
      · exact hcS (by rw [← e]; exact hj)
      · exact i2 (by rw [← e]; exact hj)
      · exact hjh e
  · rw [e3]
    have hv2 : v ∉ us := by
      have := (w9 h hh).1
      rw [e] at this
      exact fun hv => (List.nodup_append.mp this).2.2 v hv v (by simp) rfl
    refine lkf_app (d := gI g c 3) ?_ (lkf_same (fun x hx => hkeep x (fun e2 => ((w9 h hh).2 v hvin).2 (by rw [← e2]; exact hx))) w3)
    rw [e] at y6 ⊢
    exact lkf_end y6 hv2 (fun x hx => hkeep x (fun e2 => hv2 (by rw [← e2]; exact hx))) (by rw [hn', if_pos rfl])
  · rw [e4, w4, y2, pk_sub (by omega)]
    congr 1
    omega
  · rcases List.mem_append.mp hp with hp | hp
    · exact ((w9 h hh).2 p hp).1
    · exact w7 p hp
  · by_cases hjh : j = h
    · subst hjh
      rw [va_up_eq]
      exact ⟨List.nodup_nil, fun x hx => absurd hx List.not_mem_nil⟩
    · rw [va_up_ne' hjh]
      refine ⟨(w9 j hj).1, fun x hx => ⟨((w9 j hj).2 x hx).1, fun e2 => ?_⟩⟩
      rcases List.mem_append.mp e2 with e2 | e2
      · exact hjh (w10 j hj h hh x hx e2)
      · exact ((w9 j hj).2 x hx).2 e2
  · have key : ∀ j ∈ S, x ∈ va_up ch h [] j → x ∈ ch j := fun j hj hx => by
      by_cases hjh : j = h
      · subst hjh; rw [va_up_eq] at hx; exact absurd hx List.not_mem_nil
      · rw [va_up_ne' hjh] at hx; exact hx
    exact w10 j hj i hi x (key j hj hx) (key i hi hy)
theorem cnt0 {g : mu_T} {c rb rn N k fr : Nat} {S fl : List Nat} {ch : Nat → List Nat} (w : CW g c rb rn N S ch fl fr) (hk : k ∈ S) (h : gI g k 2 ≤ 0) : ch k = [] := by
  obtain ⟨hC, hS, hcS, hch, w2, w3, w4, w5, w6, w7, w8, w9, w10⟩ := w
  have hN := hC.2.2.2.2.2.2.2.2
  rw [(hch k hk).2.1] at h
  rcases Nat.eq_zero_or_pos (ch k).length with z | z
  · exact List.length_eq_zero_iff.mp z
  · have t1 := tot_up (ch := ch) (x := []) hS hk
    rw [List.length_nil] at t1
    exact absurd h (nI_nle z (by omega))
theorem cnt1 {g : mu_T} {c rb rn N k fr : Nat} {S fl : List Nat} {ch : Nat → List Nat} (w : CW g c rb rn N S ch fl fr) (hk : k ∈ S) (h : ¬ gI g k 2 ≤ 0) : ch k ≠ [] := fun e => h (by
  rw [(w.2.2.2.1 k hk).2.1, e]; decide)
theorem up_nil {ch : Nat → List Nat} {h k : Nat} (hhk : h ≠ k) (e : ch k = []) : va_up (va_up ch h (ch h ++ ch k)) k [] = ch := by
  funext j
  by_cases hj : j = k
  · rw [hj, va_up_eq, e]
  · rw [va_up_ne' hj, e, List.append_nil]
    by_cases hh : j = h
    · rw [hh, va_up_eq]
    · rw [va_up_ne' hh]
set_option maxHeartbeats 4000000 in
set_option maxRecDepth 100000 in
theorem k_Ce_join (l : Launch) (q : ev_T) {c rb rn N h k fr : Nat} {S fl : List Nat} {ch : Nat → List Nat} {g : mu_T} (hW : CW g c rb rn N S ch fl fr) (hh : h ∈ S) (hk : k ∈ S) (hhk : h ≠ k) : Ctr l q M_Ce_join 1 [.ref c, .ref h, .ref k] (0, 0, g) (fun v w => v = none ∧ sm g w.2.2 [rn, h, k] ∧ CW w.2.2 c rb rn N S (va_up (va_up ch h (ch h ++ ch k)) k []) fl fr) := by
  have hCg := hW.1
  obtain ⟨hkc, hac, hFb, hFn, hkb, hab, hkn, han, hN⟩ := id hCg
  have hCHh := hW.2.2.2.1 h hh
  have hCHk := hW.2.2.2.1 k hk
  have hHh := hCHh.1
  obtain ⟨hkh, hah⟩ := id hHh
  obtain ⟨hkk, hak⟩ := id hCHk.1
  obtain ⟨i1, i2, i3, i4, i5⟩ := hW.ids
  have jhn : h ≠ rn := fun e => i2 (by rw [← e]; exact hh)
  have jkn : k ≠ rn := fun e => i2 (by rw [← e]; exact hk)
  have w5 := hW.2.2.2.2.2.2.2.1
  have hl3 := hCHh.last (N := N) (fun x hx => by have := ((hW.2.2.2.2.2.2.2.2.2.2.2.1 h hh).2 x hx).1; omega)
  obtain ⟨f1, f2, f3, f4, f5⟩ := hangM_facts (g := g) (x := gI g k 0) (y := gI g k 1) (z := gI g k 2) jhn
  have hHk2 : isH (hangM g rn h (gI g k 0) (gI g k 1) (gI g k 2)) k := hCHk.1.sm f1
  obtain ⟨g1, g2, g3, g4⟩ := loosen_facts (hangM g rn h (gI g k 0) (gI g k 1) (gI g k 2)) k
  have z : sm g (xI (xI (xI (hangM g rn h (gI g k 0) (gI g k 1) (gI g k 2)) k 0 (-1)) k 1 (-1)) k 2 0) [rn, h, k] := f1.tr g1 (by simp) (by simp)
  have hJ : ch k ≠ [] → (none : Option Value) = none ∧ sm g (xI (xI (xI (hangM g rn h (gI g k 0) (gI g k 1) (gI g k 2)) k 0 (-1)) k 1 (-1)) k 2 0) [rn, h, k] ∧ CW (xI (xI (xI (hangM g rn h (gI g k 0) (gI g k 1) (gI g k 2)) k 0 (-1)) k 1 (-1)) k 2 0) c rb rn N S (va_up (va_up ch h (ch h ++ ch k)) k []) fl fr := fun hne =>
    ⟨rfl, z, hW.join hh hk hhk hne z g2 g3 g4 (by rw [g1.I (by simp [hhk]), f2]) (by rw [g1.I (by simp [hhk]), f3]) (by rw [g1.I (by simp [hhk]), f4]) (fun x => by rw [g1.I (by simp [Ne.symm jkn]), f5])⟩
  refine Ctr.mk (lb := [some (.ref c), some (.ref h), some (.ref k)]) (by decide +kernel) (Nat.le_of_ble_eq_true rfl) rfl rfl ?_
  intro pp ee ss mm aa bb mt cd X hrt hlk hnm
  refine v_aload_n X (dk D_Ce_join 0 rfl) rfl ?_
  refine v_getI X (dk D_Ce_join 1 rfl) F_Ce_55 rfl hkk hak ?_
  refine v_if_le (tgt := 28) X (dk D_Ce_join 2 rfl) (by decide) (fun c4 => ?_) (fun c4 => ?_)
  · exact v_vret X hlk hrt (dk D_Ce_join 14 rfl) ⟨rfl, sm.rf _ _, by rw [show va_up (va_up ch h (ch h ++ ch k)) k [] = ch from up_nil hhk (cnt0 hW hk c4)]; exact hW⟩
  · refine v_aload_n X (dk D_Ce_join 3 rfl) rfl ?_
    refine v_aload_n X (dk D_Ce_join 4 rfl) rfl ?_
    refine v_aload_n X (dk D_Ce_join 5 rfl) rfl ?_
    refine v_getI X (dk D_Ce_join 6 rfl) F_Ce_52 rfl hkk hak ?_
    refine v_aload_n X (dk D_Ce_join 7 rfl) rfl ?_
    refine v_getI X (dk D_Ce_join 8 rfl) F_Ce_47 rfl hkk hak ?_
    refine v_aload_n X (dk D_Ce_join 9 rfl) rfl ?_
    refine v_getI X (dk D_Ce_join 10 rfl) F_Ce_55 rfl hkk hak ?_
    refine v_invV (As := [.ref h, .int (gI g k 0), .int (gI g k 1), .int (gI g k 2)]) (st := []) X (c_Ce_hangM l q (x := gI g k 0) (y := gI g k 1) (z := gI g k 2) hCg hHh hl3) (dk D_Ce_join 11 rfl) G_Ce_43 K_Ce_hang V_Ce_hang hkc rfl hac rfl rfl (Nat.le_of_ble_eq_true rfl) (Nat.le_of_ble_eq_true rfl) (Nat.le_of_ble_eq_true rfl) (Nat.le_of_ble_eq_true rfl) (Nat.le_of_ble_eq_true rfl) ?_
    rintro v w ⟨rfl, hw⟩
    rw [hw]
    show Vv _ _ _ _ _ _ _ _ _ _ _ _ _ _ _ [] (0, 0, hangM g rn h (gI g k 0) (gI g k 1) (gI g k 2))
    refine v_aload_n X (dk D_Ce_join 12 rfl) rfl ?_
    refine v_invV (As := []) (st := []) X (c_Ch_loosen l q hHk2) (dk D_Ce_join 13 rfl) G_Ce_58 K_Ch_loosen V_Ch_loosen hkk rfl hHk2.2 rfl rfl (Nat.le_of_ble_eq_true rfl) (Nat.le_of_ble_eq_true rfl) (Nat.le_of_ble_eq_true rfl) (Nat.le_of_ble_eq_true rfl) (Nat.le_of_ble_eq_true rfl) ?_
    rintro v w ⟨rfl, hw⟩
    rw [hw]
    exact v_vret X hlk hrt (dk D_Ce_join 14 rfl) (hJ (cnt1 hW hk c4))
theorem CW.same0 {g u : mu_T} {c rb rn N h fr : Nat} {S fl : List Nat} {ch : Nat → List Nat} (w : CW g c rb rn N S ch fl fr) (hh : h ∈ S) (e : ch h = []) (z : sm g u [h]) (k0 : gI u h 0 = -1) (k1 : gI u h 1 = -1) (k2 : gI u h 2 = 0) : CW u c rb rn N S ch fl fr := by
  obtain ⟨i1, i2, i3, i4, i5⟩ := w.ids
  obtain ⟨hC, hS, hcS, hch, w2, w3, w4, w5, w6, w7, w8, w9, w10⟩ := w
  have jc : c ∉ [h] := by simp only [List.mem_singleton]; exact fun x => hcS (by rw [x]; exact hh)
  have jn : rn ∉ [h] := by simp only [List.mem_singleton]; exact fun x => i2 (by rw [x]; exact hh)
  refine ⟨hC.sm z, hS, hcS, fun j hj => ?_, by rw [z.I jc]; exact w2, by rw [z.I jc]; exact lkf_same (fun x _ => z.I jn x) w3, by rw [z.I jc]; exact w4, w5, w6, w7, w8, w9, w10⟩
  by_cases hjh : j = h
  · subst hjh
    rw [e]
    exact CH.nil ((hch j hj).1.sm z) k0 k1 k2
  · exact (hch j hj).keep z (by simp [hjh]) (fun x _ => z.I jn x)
set_option maxHeartbeats 4000000 in
set_option maxRecDepth 100000 in
theorem k_Ce_release (l : Launch) (q : ev_T) {c rb rn N h fr : Nat} {S fl : List Nat} {ch : Nat → List Nat} {g : mu_T} (hW : CW g c rb rn N S ch fl fr) (hh : h ∈ S) : Ctr l q M_Ce_release 1 [.ref c, .ref h] (0, 0, g) (fun v w => v = none ∧ sm g w.2.2 [c, rn, h] ∧ CW w.2.2 c rb rn N S (va_up ch h []) (ch h ++ fl) fr) := by
  have hCg := hW.1
  obtain ⟨hkc, hac, hFb, hFn, hkb, hab, hkn, han, hN⟩ := id hCg
  have hCHh := hW.2.2.2.1 h hh
  have hHh := hCHh.1
  obtain ⟨hkh, hah⟩ := id hHh
  obtain ⟨i1, i2, i3, i4, i5⟩ := hW.ids
  have jhn : h ≠ rn := fun e => i2 (by rw [← e]; exact hh)
  have jhc : h ≠ c := fun e => hW.2.2.1 (by rw [← e]; exact hh)
  have w5 := hW.2.2.2.2.2.2.2.1
  obtain ⟨gX, hgX⟩ : ∃ gX, gX = xI (xI (xI g rn (gI g h 1).toNatClampNeg (gI g c 3)) c 3 (gI g h 0)) c 4 (gI g c 4 - gI g h 2) := ⟨_, rfl⟩
  have z4 : sm g gX [c, rn] := by rw [hgX]; exact (((sm.rf g _).xI (by simp)).xI (by simp)).xI (by simp)
  have hH4 : isH gX h := hHh.sm z4
  refine Ctr.mk (lb := [some (.ref c), some (.ref h)]) (by decide +kernel) (Nat.le_of_ble_eq_true rfl) rfl rfl ?_
  intro pp ee ss mm aa bb mt cd X hrt hlk hnm
  rcases snoc_or (ch h) with e | ⟨us, x0, e⟩
  · have hic : (if ¬ gI g h 1 < 0 ∧ ¬ nI N ≤ gI g h 1 then (1 : Int32) else 0) = 0 := if_neg (fun z => z.1 (by rw [(hCHh.2.2.1 e).2]; decide))
    obtain ⟨g1, g2, g3, g4⟩ := loosen_facts g h
    have hE : CW (xI (xI (xI g h 0 (-1)) h 1 (-1)) h 2 0) c rb rn N S (va_up ch h []) (ch h ++ fl) fr := by
      rw [e, List.nil_append, show va_up ch h [] = ch from by rw [← e]; exact vu_self ch h]
      exact hW.same0 hh e g1 g2 g3 g4
    refine v_aload_n X (dk D_Ce_release 0 rfl) rfl ?_
    refine v_aload_n X (dk D_Ce_release 1 rfl) rfl ?_
    refine v_getI X (dk D_Ce_release 2 rfl) F_Ce_47 rfl hkh hah ?_
    refine v_invV (As := [.int (gI g h 1)]) (st := []) X (c_Ce_isCell l q (i := gI g h 1) hCg) (dk D_Ce_release 3 rfl) G_Ce_33 K_Ce_isCell V_Ce_isCell hkc rfl hac rfl rfl (Nat.le_of_ble_eq_true rfl) (Nat.le_of_ble_eq_true rfl) (Nat.le_of_ble_eq_true rfl) (Nat.le_of_ble_eq_true rfl) (Nat.le_of_ble_eq_true rfl) ?_
    rintro v w ⟨rfl, hw⟩
    rw [hw, show (if ¬ gI g h 1 < 0 ∧ ¬ nI N ≤ gI g h 1 then (1 : Int32) else 0) = 0 from hic]
    show Vv _ _ _ _ _ _ _ _ _ _ _ _ _ _ _ [.int 0] (0, 0, g)
    refine v_if_eq (tgt := 45) X (dk D_Ce_release 4 rfl) (by decide) (fun _ => ?_) (fun c8 => absurd rfl c8)
    refine v_aload_n X (dk D_Ce_release 23 rfl) rfl ?_
    refine v_invV (As := []) (st := []) X (c_Ch_loosen l q hHh) (dk D_Ce_release 24 rfl) G_Ce_58 K_Ch_loosen V_Ch_loosen hkh rfl hHh.2 rfl rfl (Nat.le_of_ble_eq_true rfl) (Nat.le_of_ble_eq_true rfl) (Nat.le_of_ble_eq_true rfl) (Nat.le_of_ble_eq_true rfl) (Nat.le_of_ble_eq_true rfl) ?_
    rintro v w ⟨rfl, hw⟩
    rw [hw]
    exact v_vret X hlk hrt (dk D_Ce_release 25 rfl) ⟨rfl, g1.mono (by simp), hE⟩
  · have hl := ((hCHh.2.2.2) us x0 e).1
    have hvN : x0 < N := by have := ((hW.2.2.2.2.2.2.2.2.2.2.2.1 h hh).2 x0 (by rw [e]; simp)).1; omega
    have hic : (if ¬ gI g h 1 < 0 ∧ ¬ nI N ≤ gI g h 1 then (1 : Int32) else 0) = 1 := if_pos ⟨by rw [hl]; exact nI_pos (by omega), by rw [hl]; exact nI_ge hvN (by omega)⟩
    obtain ⟨g1, g2, g3, g4⟩ := loosen_facts gX h
    have hR : (none : Option Value) = none ∧ sm g (xI (xI (xI gX h 0 (-1)) h 1 (-1)) h 2 0) [c, rn, h] ∧ CW (xI (xI (xI gX h 0 (-1)) h 1 (-1)) h 2 0) c rb rn N S (va_up ch h []) (ch h ++ fl) fr := by
      have z : sm g (xI (xI (xI gX h 0 (-1)) h 1 (-1)) h 2 0) [c, rn, h] := z4.tr g1 (by simp) (by simp)
      refine ⟨rfl, z, hW.free hh (by rw [e]; simp) z g2 g3 g4 ?_ ?_ ?_ (fun x => ?_)⟩
      · rw [g1.I (by simp [Ne.symm jhc]), hgX, gI_nk (by decide), gI_nk (by decide), gI_na i4]
      · rw [g1.I (by simp [Ne.symm jhc]), hgX, gI_nk (by decide), gI_eq]
      · rw [g1.I (by simp [Ne.symm jhc]), hgX, gI_eq]
      · rw [g1.I (by simp [Ne.symm jhn]), hgX, gI_na (Ne.symm i4), gI_na (Ne.symm i4)]
        by_cases hx : x = (gI g h 1).toNatClampNeg
        · rw [if_pos hx, hx, gI_eq]
        · rw [if_neg hx, gI_nk hx]
    refine v_aload_n X (dk D_Ce_release 0 rfl) rfl ?_
    refine v_aload_n X (dk D_Ce_release 1 rfl) rfl ?_
    refine v_getI X (dk D_Ce_release 2 rfl) F_Ce_47 rfl hkh hah ?_
    refine v_invV (As := [.int (gI g h 1)]) (st := []) X (c_Ce_isCell l q (i := gI g h 1) hCg) (dk D_Ce_release 3 rfl) G_Ce_33 K_Ce_isCell V_Ce_isCell hkc rfl hac rfl rfl (Nat.le_of_ble_eq_true rfl) (Nat.le_of_ble_eq_true rfl) (Nat.le_of_ble_eq_true rfl) (Nat.le_of_ble_eq_true rfl) (Nat.le_of_ble_eq_true rfl) ?_
    rintro v w ⟨rfl, hw⟩
    rw [hw, show (if ¬ gI g h 1 < 0 ∧ ¬ nI N ≤ gI g h 1 then (1 : Int32) else 0) = 1 from hic]
    show Vv _ _ _ _ _ _ _ _ _ _ _ _ _ _ _ [.int 1] (0, 0, g)
    refine v_if_eq (tgt := 45) X (dk D_Ce_release 4 rfl) (by decide) (fun c8 => absurd c8 (by decide)) (fun _ => ?_)
    refine v_aload_n X (dk D_Ce_release 5 rfl) rfl ?_
    refine v_getF X (dk D_Ce_release 6 rfl) F_Ce_23 rfl hkc hac hFn ?_
    refine v_aload_n X (dk D_Ce_release 7 rfl) rfl ?_
    refine v_getI X (dk D_Ce_release 8 rfl) F_Ce_47 rfl hkh hah ?_
    refine v_aload_n X (dk D_Ce_release 9 rfl) rfl ?_
    refine v_getI X (dk D_Ce_release 10 rfl) F_Ce_7 rfl hkc hac ?_
    refine v_iast X (dk D_Ce_release 11 rfl) hkn han (by rw [hl]; exact vp_in_nI hvN (by omega)) ?_
    refine v_aload_n X (dk D_Ce_release 12 rfl) rfl ?_
    refine v_aload_n X (dk D_Ce_release 13 rfl) rfl ?_
    refine v_getI X (dk D_Ce_release 14 rfl) F_Ce_52 rfl hkh hah ?_
    refine v_putI X (dk D_Ce_release 15 rfl) F_Ce_7 CK_Ce rfl hkc hac rfl rfl ?_
    refine v_aload_n X (dk D_Ce_release 16 rfl) rfl ?_
    refine v_dup X (dk D_Ce_release 17 rfl) rfl ?_
    refine v_getI X (dk D_Ce_release 18 rfl) F_Ce_30 rfl hkc hac ?_
    refine v_aload_n X (dk D_Ce_release 19 rfl) rfl ?_
    refine v_getI X (dk D_Ce_release 20 rfl) F_Ce_55 rfl hkh hah ?_
    refine v_isub X (dk D_Ce_release 21 rfl) ?_
    refine v_putI X (dk D_Ce_release 22 rfl) F_Ce_30 CK_Ce rfl hkc hac rfl rfl ?_
    rw [show xI (xI (xI g rn (gI g h 1).toNatClampNeg (gI g c 3)) c 3 (gI (xI g rn (gI g h 1).toNatClampNeg (gI g c 3)) h 0)) c 4 (gI (xI (xI g rn (gI g h 1).toNatClampNeg (gI g c 3)) c 3 (gI (xI g rn (gI g h 1).toNatClampNeg (gI g c 3)) h 0)) c 4 - gI (xI (xI g rn (gI g h 1).toNatClampNeg (gI g c 3)) c 3 (gI (xI g rn (gI g h 1).toNatClampNeg (gI g c 3)) h 0)) h 2) = gX from by rw [hgX, gI_na jhn, gI_nk (show (4 : Nat) ≠ 3 by decide), gI_na i4, gI_na jhc, gI_na jhn]]
    refine v_aload_n X (dk D_Ce_release 23 rfl) rfl ?_
    refine v_invV (As := []) (st := []) X (c_Ch_loosen l q hH4) (dk D_Ce_release 24 rfl) G_Ce_58 K_Ch_loosen V_Ch_loosen hkh rfl hH4.2 rfl rfl (Nat.le_of_ble_eq_true rfl) (Nat.le_of_ble_eq_true rfl) (Nat.le_of_ble_eq_true rfl) (Nat.le_of_ble_eq_true rfl) (Nat.le_of_ble_eq_true rfl) ?_
    rintro v w ⟨rfl, hw⟩
    rw [hw]
    exact v_vret X hlk hrt (dk D_Ce_release 25 rfl) hR
