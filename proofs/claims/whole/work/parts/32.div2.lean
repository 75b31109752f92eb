/-! Diversions: bring, gather -/
/-- what 'bring' makes of the diversions -/
def brX (cur : Int32) (D : Nat → List Int32) (v : Int32) : Nat → List Int32 := if v < 1 ∨ nI 10 ≤ v ∨ v = cur then D else if cur = -1 then va_up D v.toNatClampNeg [] else va_up (va_up D cur.toNatClampNeg (D cur.toNatClampNeg ++ D v.toNatClampNeg)) v.toNatClampNeg []
theorem v_k {v : Int32} (h1 : ¬ v < 1) (h2 : ¬ nI 10 ≤ v) : ∃ k, 1 ≤ k ∧ k < 10 ∧ v = nI k := by
  have h0 : ¬ v < 0 := fun z => h1 (Int32.lt_trans z (by decide))
  obtain ⟨k, hk, rfl⟩ := nI_of h0
  refine ⟨k, ?_, ?_, rfl⟩
  · rcases Nat.eq_zero_or_pos k with z | z
    · subst z; exact absurd (by decide) h1
    · exact z
  · rcases Nat.lt_or_ge k 10 with z | z
    · exact z
    · exact absurd (nI_le z hk) h2
theorem bys_keep {g u : mu_T} {S : List Nat} (z : sm g u S) (h : 984 ∉ S) (ps : List Nat) : bys u 984 ps = bys g 984 ps := List.map_congr_left fun x _ => z.I h x
theorem d_free {g u : mu_T} {cur : Int32} {D : Nat → List Int32} {ch : Nat → List Nat} {fl : List Nat} {fr k : Nat} (hk : k < 10) (h1k : 1 ≤ k) (hcur : cur = -1) (h1 : gI g 982 0 = cur) (hX : ∀ i, i < 10 → bys g 984 (ch (987 + i)) = D i) (z : sm g u [983, 985, 987 + k]) (hW : CW u 983 984 985 32768 SD (va_up ch (987 + k) []) (ch (987 + k) ++ fl) fr) : sm g u DS ∧ DV u cur (brX cur D (nI k)) := by
  have hn1 : ¬ nI k < 1 := nI_nlt (b := 1) h1k (by omega)
  have hn2 : ¬ nI 10 ≤ nI k := nI_ge hk (by decide)
  have hn3 : ¬ nI k = cur := fun e => by rw [hcur] at e; exact absurd (by rw [e]; decide) (nI_pos (n := k) (by omega))
  refine ⟨z.mono (fun a ha => ?_), by rw [z.I (by simp; omega)]; exact h1, Or.inl hcur, _, _, _, hW, fun i hi => ?_⟩
  · simp only [List.mem_cons, List.not_mem_nil, or_false] at ha
    rcases ha with rfl | rfl | rfl
    · decide
    · decide
    · exact SD_DS hk
  · rw [bys_keep z (by simp; omega), brX, if_neg (n3 hn1 hn2 hn3), if_pos hcur, nI_clamp (by omega)]
    by_cases hik : i = k
    · subst hik; rw [va_up_eq, va_up_eq]; rfl
    · rw [va_up_ne' (by omega), va_up_ne' hik, hX i hi]
theorem d_join {g u : mu_T} {cur : Int32} {D : Nat → List Int32} {ch : Nat → List Nat} {fl : List Nat} {fr k ci : Nat} (hk : k < 10) (h1k : 1 ≤ k) (hci : ci < 10) (hkc : ci ≠ k) (hcur : cur = nI ci) (h1 : gI g 982 0 = cur) (hX : ∀ i, i < 10 → bys g 984 (ch (987 + i)) = D i) (z : sm g u [985, 987 + ci, 987 + k]) (hW : CW u 983 984 985 32768 SD (va_up (va_up ch (987 + ci) (ch (987 + ci) ++ ch (987 + k))) (987 + k) []) fl fr) : sm g u DS ∧ DV u cur (brX cur D (nI k)) := by
  have hn1 : ¬ nI k < 1 := nI_nlt (b := 1) h1k (by omega)
  have hn2 : ¬ nI 10 ≤ nI k := nI_ge hk (by decide)
  have hn3 : ¬ nI k = cur := fun e => by rw [hcur, nI_eq (by omega) (by omega)] at e; exact hkc e.symm
  have hn4 : ¬ cur = -1 := fun e => by rw [hcur] at e; exact absurd (by rw [e]; decide) (nI_pos (n := ci) (by omega))
  refine ⟨z.mono (fun a ha => ?_), by rw [z.I (by simp; omega)]; exact h1, Or.inr ⟨ci, hci, hcur⟩, _, _, _, hW, fun i hi => ?_⟩
  · simp only [List.mem_cons, List.not_mem_nil, or_false] at ha
    rcases ha with rfl | rfl | rfl
    · decide
    · exact SD_DS hci
    · exact SD_DS hk
  · rw [bys_keep z (by simp; omega), brX, if_neg (n3 hn1 hn2 hn3), if_neg hn4, hcur, nI_clamp (by omega), nI_clamp (by omega)]
    by_cases hik : i = k
    · subst hik; rw [va_up_eq, va_up_eq]; rfl
    · rw [va_up_ne' (by omega), va_up_ne' hik]
      by_cases hic : i = ci
      · subst hic
        rw [va_up_eq, va_up_eq, bys, List.map_append]
        exact congr (congrArg HAppend.hAppend (hX i hi)) (hX k hk)
      · rw [va_up_ne' (by omega), va_up_ne' hic, hX i hi]
set_option maxHeartbeats 4000000 in
set_option maxRecDepth 100000 in
theorem k_Di_bring (l : Launch) (q : ev_T) {cur x : Int32} {D : Nat → List Int32} {g : mu_T} (hS : Shp g) (hR : DR g) (hD : DV g cur D) : Ctr l q M_Di_bring 2 [.ref 982, .int x] (0, 0, g) (fun v w => v = none ∧ sm g w.2.2 DS ∧ DV w.2.2 cur (brX cur D x)) := by
  refine Ctr.mk (lb := [some (.ref 982), some (.int x)]) (by decide +kernel) (Nat.le_of_ble_eq_true rfl) rfl rfl ?_
  intro pp ee ss mm aa bb mt cd X hrt hlk hnm
  obtain ⟨h1, h2, ch, fl, fr, hW, hX⟩ := id hD
  rcases h2 with hcur | ⟨ci, hci, hcur⟩
  · refine v_iload_n X (dk D_Di_bring 0 rfl) rfl ?_
    refine v_iconst (v := 1) X (dk D_Di_bring 1 rfl) (by decide) ?_
    refine v_icmp_lt (tgt := 22) X (dk D_Di_bring 2 rfl) (by decide) (fun c2 => ?_) (fun c2 => ?_)
    · exact v_vret X hlk hrt (dk D_Di_bring 12 rfl) ⟨rfl, sm.rf _ _, by rw [brX, if_pos (Or.inl c2)]; exact hD⟩
    · refine v_iload_n X (dk D_Di_bring 3 rfl) rfl ?_
      refine v_aload_n X (dk D_Di_bring 4 rfl) rfl ?_
      refine v_getF X (dk D_Di_bring 5 rfl) F_Di_23 rfl rfl (hS.lt (by decide)) (hS.2 982 2) ?_
      refine v_alen (v := nI _) X (dk D_Di_bring 6 rfl) rfl rfl (hS.lt (by decide)) rfl ?_
      refine v_icmp_ge (tgt := 22) X (dk D_Di_bring 7 rfl) (by decide) (fun c11 => ?_) (fun c11 => ?_)
      · exact v_vret X hlk hrt (dk D_Di_bring 12 rfl) ⟨rfl, sm.rf _ _, by rw [brX, if_pos (Or.inr (Or.inl c11))]; exact hD⟩
      · refine v_iload_n X (dk D_Di_bring 8 rfl) rfl ?_
        refine v_aload_n X (dk D_Di_bring 9 rfl) rfl ?_
        refine v_getI X (dk D_Di_bring 10 rfl) F_Di_34 rfl rfl (hS.lt (by decide)) ?_
        refine v_icmp_ne (tgt := 23) X (dk D_Di_bring 11 rfl) (by decide) (fun c19 => ?_) (fun c19 => ?_)
        · refine v_aload_n X (dk D_Di_bring 13 rfl) rfl ?_
          refine v_getI X (dk D_Di_bring 14 rfl) F_Di_34 rfl rfl (hS.lt (by decide)) ?_
          refine v_if_lt (tgt := 42) X (dk D_Di_bring 15 rfl) (by decide) (fun _ => ?_) (fun c27 => absurd (by rw [h1, hcur]; decide) c27)
          refine v_aload_n X (dk D_Di_bring 22 rfl) rfl ?_
          refine v_getF X (dk D_Di_bring 23 rfl) F_Di_15 rfl rfl (hS.lt (by decide)) (hS.2 982 1) ?_
          refine v_aload_n X (dk D_Di_bring 24 rfl) rfl ?_
          refine v_getF X (dk D_Di_bring 25 rfl) F_Di_23 rfl rfl (hS.lt (by decide)) (hS.2 982 2) ?_
          refine v_iload_n X (dk D_Di_bring 26 rfl) rfl ?_
          obtain ⟨k, hk1, hk10, hxk⟩ := v_k c2 c11
          refine v_aaldR (b := 987 + k) X (dk D_Di_bring 27 rfl) rfl rfl (by decide) (hS.lt (by decide)) (by rw [hxk]; exact vp_in_nI (by omega) (by decide)) (by rw [hxk]; rw [nI_clamp (by omega)]; exact hR _ (by omega)) ?_
          refine v_invV (As := [.ref (987 + k)]) (st := []) X (k_Ce_release l q hW (SD_mem hk10)) (dk D_Di_bring 28 rfl) G_Di_47 K_Ce_release V_Ce_release rfl rfl (hS.lt (by decide)) rfl rfl (Nat.le_of_ble_eq_true rfl) (Nat.le_of_ble_eq_true rfl) (Nat.le_of_ble_eq_true rfl) (Nat.le_of_ble_eq_true rfl) (Nat.le_of_ble_eq_true rfl) ?_
          rintro v w ⟨rfl, hw1, hw2⟩
          show Vv _ _ _ _ _ _ _ _ _ _ _ _ _ _ _ [] (0, 0, w.2.2)
          refine v_goto (tgt := 80) X (dk D_Di_bring 29 rfl) (by decide) ?_
          exact v_vret X hlk hrt (dk D_Di_bring 42 rfl) ⟨rfl, by rw [hxk]; exact d_free hk10 hk1 hcur h1 hX hw1 hw2⟩
        · exact v_vret X hlk hrt (dk D_Di_bring 12 rfl) ⟨rfl, sm.rf _ _, by rw [brX, if_pos (Or.inr (Or.inr (c19.trans h1)))]; exact hD⟩
  · have hcu : gI g 982 0 = nI ci := h1.trans hcur
    refine v_iload_n X (dk D_Di_bring 0 rfl) rfl ?_
    refine v_iconst (v := 1) X (dk D_Di_bring 1 rfl) (by decide) ?_
    refine v_icmp_lt (tgt := 22) X (dk D_Di_bring 2 rfl) (by decide) (fun c2 => ?_) (fun c2 => ?_)
    · exact v_vret X hlk hrt (dk D_Di_bring 12 rfl) ⟨rfl, sm.rf _ _, by rw [brX, if_pos (Or.inl c2)]; exact hD⟩
    · refine v_iload_n X (dk D_Di_bring 3 rfl) rfl ?_
      refine v_aload_n X (dk D_Di_bring 4 rfl) rfl ?_
      refine v_getF X (dk D_Di_bring 5 rfl) F_Di_23 rfl rfl (hS.lt (by decide)) (hS.2 982 2) ?_
      refine v_alen (v := nI _) X (dk D_Di_bring 6 rfl) rfl rfl (hS.lt (by decide)) rfl ?_
      refine v_icmp_ge (tgt := 22) X (dk D_Di_bring 7 rfl) (by decide) (fun c11 => ?_) (fun c11 => ?_)
      · exact v_vret X hlk hrt (dk D_Di_bring 12 rfl) ⟨rfl, sm.rf _ _, by rw [brX, if_pos (Or.inr (Or.inl c11))]; exact hD⟩
      · refine v_iload_n X (dk D_Di_bring 8 rfl) rfl ?_
        refine v_aload_n X (dk D_Di_bring 9 rfl) rfl ?_
        refine v_getI X (dk D_Di_bring 10 rfl) F_Di_34 rfl rfl (hS.lt (by decide)) ?_
        refine v_icmp_ne (tgt := 23) X (dk D_Di_bring 11 rfl) (by decide) (fun c19 => ?_) (fun c19 => ?_)
        · refine v_aload_n X (dk D_Di_bring 13 rfl) rfl ?_
          refine v_getI X (dk D_Di_bring 14 rfl) F_Di_34 rfl rfl (hS.lt (by decide)) ?_
          refine v_if_lt (tgt := 42) X (dk D_Di_bring 15 rfl) (by decide) (fun c27 => absurd c27 (by rw [hcu]; exact nI_pos (by omega))) (fun _ => ?_)
          refine v_aload_n X (dk D_Di_bring 16 rfl) rfl ?_
          refine v_getI X (dk D_Di_bring 17 rfl) F_Di_34 rfl rfl (hS.lt (by decide)) ?_
          refine v_aload_n X (dk D_Di_bring 18 rfl) rfl ?_
          refine v_getF X (dk D_Di_bring 19 rfl) F_Di_23 rfl rfl (hS.lt (by decide)) (hS.2 982 2) ?_
          refine v_alen (v := nI _) X (dk D_Di_bring 20 rfl) rfl rfl (hS.lt (by decide)) rfl ?_
          refine v_icmp_lt (tgt := 58) X (dk D_Di_bring 21 rfl) (by decide) (fun _ => ?_) (fun c39 => absurd (by rw [hcu]; exact nI_lt hci (by decide)) c39)
          refine v_aload_n X (dk D_Di_bring 30 rfl) rfl ?_
          refine v_getF X (dk D_Di_bring 31 rfl) F_Di_15 rfl rfl (hS.lt (by decide)) (hS.2 982 1) ?_
          refine v_aload_n X (dk D_Di_bring 32 rfl) rfl ?_
          refine v_getF X (dk D_Di_bring 33 rfl) F_Di_23 rfl rfl (hS.lt (by decide)) (hS.2 982 2) ?_
          refine v_aload_n X (dk D_Di_bring 34 rfl) rfl ?_
          refine v_getI X (dk D_Di_bring 35 rfl) F_Di_34 rfl rfl (hS.lt (by decide)) ?_
          refine v_aaldR (b := 987 + ci) X (dk D_Di_bring 36 rfl) rfl rfl (by decide) (hS.lt (by decide)) (by rw [hcu]; exact vp_in_nI (by omega) (by decide)) (by rw [hcu]; rw [nI_clamp (by omega)]; exact hR _ (by omega)) ?_
          refine v_aload_n X (dk D_Di_bring 37 rfl) rfl ?_
          refine v_getF X (dk D_Di_bring 38 rfl) F_Di_23 rfl rfl (hS.lt (by decide)) (hS.2 982 2) ?_
          refine v_iload_n X (dk D_Di_bring 39 rfl) rfl ?_
          obtain ⟨k, hk1, hk10, hxk⟩ := v_k c2 c11
          refine v_aaldR (b := 987 + k) X (dk D_Di_bring 40 rfl) rfl rfl (by decide) (hS.lt (by decide)) (by rw [hxk]; exact vp_in_nI (by omega) (by decide)) (by rw [hxk]; rw [nI_clamp (by omega)]; exact hR _ (by omega)) ?_
          have hck : ci ≠ k := fun e => c19 (by rw [hcu, hxk, e])
          refine v_invV (As := [.ref (987 + ci), .ref (987 + k)]) (st := []) X (k_Ce_join l q hW (SD_mem hci) (SD_mem hk10) (by omega)) (dk D_Di_bring 41 rfl) G_Di_51 K_Ce_join V_Ce_join rfl rfl (hS.lt (by decide)) rfl rfl (Nat.le_of_ble_eq_true rfl) (Nat.le_of_ble_eq_true rfl) (Nat.le_of_ble_eq_true rfl) (Nat.le_of_ble_eq_true rfl) (Nat.le_of_ble_eq_true rfl) ?_
          rintro v w ⟨rfl, hw1, hw2⟩
          show Vv _ _ _ _ _ _ _ _ _ _ _ _ _ _ _ [] (0, 0, w.2.2)
          exact v_vret X hlk hrt (dk D_Di_bring 42 rfl) ⟨rfl, by rw [hxk]; exact d_join hk10 hk1 hci hck hcur h1 hX hw1 hw2⟩
        · exact v_vret X hlk hrt (dk D_Di_bring 12 rfl) ⟨rfl, sm.rf _ _, by rw [brX, if_pos (Or.inr (Or.inr (c19.trans h1)))]; exact hD⟩
