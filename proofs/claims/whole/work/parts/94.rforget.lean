/-! the reference: a meaning is forgotten -/
theorem bN_0 {e : Me} {M : List Me} (h : okM M) (hm : e ∈ M) : (nI (bN e.2.1) = 0 ↔ e.2.1 = none) := by
  cases he : e.2.1 with
  | none => exact ⟨fun _ => rfl, fun _ => rfl⟩
  | some c =>
    obtain ⟨j, hj, rfl⟩ := h e hm c he
    exact ⟨fun z => absurd z (nI_ne0 (show 0 < 1048576 + j - 1048575 by omega) (show 1048576 + j - 1048575 < 2 ^ 31 by omega)), fun z => by cases z⟩
theorem mRs_step {u : mu_T} {C B : List Me} {x : Me} {n : Nat} (h1 : mRs u 0 0 C) (h2 : mRs u (C.length + 1) ((mT C).length + n) (x :: B)) : mRs (xI (xI (xI (xI u 1011 C.length (nI (mT C).length)) 1012 C.length (nI x.1.length)) 1013 C.length (nI x.2.2.length)) 1014 C.length (nI (bN x.2.1))) 0 0 (C ++ [x]) ∧ mRs (xI (xI (xI (xI u 1011 C.length (nI (mT C).length)) 1012 C.length (nI x.1.length)) 1013 C.length (nI x.2.2.length)) 1014 C.length (nI (bN x.2.1))) ((C ++ [x]).length + 1) ((mT (C ++ [x])).length + n) B := by
  have key : ∀ j, j ≠ C.length → ∀ r, gI (xI (xI (xI (xI u 1011 C.length (nI (mT C).length)) 1012 C.length (nI x.1.length)) 1013 C.length (nI x.2.2.length)) 1014 C.length (nI (bN x.2.1))) r j = gI u r j := fun j hj r => by rw [gI_nk hj, gI_nk hj, gI_nk hj, gI_nk hj]
  refine ⟨mRs_app.mpr ⟨mRs_of h1 (fun j _ hj => ⟨key j (by omega) _, key j (by omega) _, key j (by omega) _, key j (by omega) _⟩), ?_, trivial⟩, ?_⟩
  · rw [Nat.zero_add, Nat.zero_add]
    exact ⟨(gI_na (by decide)).trans ((gI_na (by decide)).trans ((gI_na (by decide)).trans (gI_eq _ _ _ _))), (gI_na (by decide)).trans ((gI_na (by decide)).trans (gI_eq _ _ _ _)), (gI_na (by decide)).trans (gI_eq _ _ _ _), gI_eq _ _ _ _⟩
  · have h3 := h2.2
    rw [List.length_append, List.length_singleton, mT_app, List.length_append, show mT [x] = mB x ++ [] from rfl, List.append_nil, show (mT C).length + (mB x).length + n = (mT C).length + n + (mB x).length by omega]
    exact mRs_of h3 (fun j hj _ => ⟨key j (by omega) _, key j (by omega) _, key j (by omega) _, key j (by omega) _⟩)
theorem mT_mid {A B : List Me} {e : Me} {i : Nat} : (i < (mT A).length → (mT (A ++ e :: B)).getD i 0 = (mT (A ++ B)).getD i 0) ∧ ((mT A).length ≤ i → (mT (A ++ e :: B)).getD (i + (mB e).length) 0 = (mT (A ++ B)).getD i 0) := by
  rw [mT_app, mT_app, show mT (e :: B) = mB e ++ mT B from rfl]
  refine ⟨fun h => ?_, fun h => ?_⟩
  · rw [List.getD_eq_getElem?_getD, List.getD_eq_getElem?_getD, List.getElem?_append_left h, List.getElem?_append_left h]
  · rw [List.getD_eq_getElem?_getD, List.getD_eq_getElem?_getD, List.getElem?_append_right (by omega), List.getElem?_append_right (by omega), List.getElem?_append_right (by omega), show i + (mB e).length - (mT A).length - (mB e).length = i - (mT A).length by omega]
set_option maxHeartbeats 4000000 in
set_option maxRecDepth 100000 in
theorem r_forget (l : Launch) (q : ev_T) {A B : List Me} {e : Me} {g : mu_T} (hS : Shp g) (hM : RM g (A ++ e :: B)) : Ctr l q M_Rf_forget 0 [.ref 1003, .int (nI A.length)] (0, 0, g) (fun v w => v = none ∧ rs g w.2.2 [21, 27, 28, 29] [1011, 1012, 1013, 1014, 1015] ∧ RM w.2.2 (A ++ B)) := by
  obtain ⟨hat, htx, -, hb1, hb2⟩ := hM.at
  have hem : e ∈ A ++ e :: B := List.mem_append_right _ (List.mem_cons_self ..)
  have hmBl : (mB e).length = e.1.length + e.2.2.length := by rw [mB, List.length_append]
  have hlm : (mT (A ++ e :: B)).length = (mT (A ++ B)).length + (mB e).length := by rw [mT_app, mT_app, show mT (e :: B) = mB e ++ mT B from rfl, List.length_append, List.length_append, List.length_append]; omega
  have hlm2 : (mT (A ++ B)).length = (mT A).length + (mT B).length := by rw [mT_app, List.length_append]
  refine Ctr.mk (lb := [some (.ref 1003), some (.int (nI A.length)), none, none]) (by decide +kernel) (Nat.le_of_ble_eq_true rfl) rfl rfl ?_
  intro pp ee ss mm aa bb mt cd X hrt hlk hnm
  refine v_inv (fun hBB _ => ?_)
  have hmb : ∀ i, i < (mT (A ++ B)).length → ((mT (A ++ B)).getD i 0).toInt8.toInt32 = (mT (A ++ B)).getD i 0 := fun i hi => by
    have h9 := rw_byte hBB (r := 1015) (N := 16684) rfl hM.2.2.2.2.1
    refine h9 _ ?_
    by_cases c : i < (mT A).length
    · rw [← (mT_mid (e := e)).1 c]; exact getD_mem (by omega)
    · rw [← (mT_mid (e := e)).2 (by omega)]; exact getD_mem (by omega)
  have lp2 : ∀ (B2 C : List Me) (u : mu_T), C ++ B2 = A ++ B → rs g u [21, 27, 28, 29] [1011, 1012, 1013, 1014, 1015] → gI u 1003 21 = nI (A ++ B).length → gI u 1003 27 = nI (mT (A ++ B)).length → gI u 1003 28 = nI (cD (A ++ B)) → gI u 1003 29 = nI (cB (A ++ B)) → rwA u 1015 0 (mT (A ++ B)) → mRs u 0 0 C → mRs u (C.length + 1) ((mT C).length + (mB e).length) B2 → Vv pp l ee (rmT 0 0 0) ss mm aa bb mt cd 4 q (MQ bb (Qw q (fun v w => v = none ∧ rs g w.2.2 [21, 27, 28, 29] [1011, 1012, 1013, 1014, 1015] ∧ RM w.2.2 (A ++ B))) aa ss 0 0 (fun a => q.1 ≤ a)) 102 [some (.ref 1003), some (.int (nI A.length)), some (.int (nI (mB e).length)), some (.int (nI C.length))] [] (0, 0, u) := by
    intro B2
    induction B2 with
    | nil =>
      intro C u hC hs f1 f2 f3 f4 f5 m1 m2
      have hSu := hs.S hS
      refine v_iload_n X (dk D_Rf_forget 64 rfl) rfl ?_
      refine v_aload_n X (dk D_Rf_forget 65 rfl) rfl ?_
      refine v_getI X (dk D_Rf_forget 66 rfl) F_Rf_188 rfl rfl (hSu.lt (by decide)) ?_
      refine v_icmp_ge (tgt := 174) X (dk D_Rf_forget 67 rfl) (by decide) (fun _ => ?_) (fun c107 => absurd (by rw [f1, ← hC, List.append_nil]; exact Int32.le_refl _) c107)
      exact v_vret X hlk hrt (dk D_Rf_forget 112 rfl) ⟨rfl, hs, f1, f2, f3, f4, f5, by rw [← hC, List.append_nil]; exact m1, by rw [List.length_append]; omega, by rw [mT_app, List.length_append]; omega, fun x hx => hM.2.2.2.2.2.2.2.2 x (by rcases List.mem_append.mp hx with h | h; exact List.mem_append_left _ h; exact List.mem_append_right _ (List.mem_cons_of_mem _ h))⟩
    | cons x B2 ih =>
      intro C u hC hs f1 f2 f3 f4 f5 m1 m2
      have hSu := hs.S hS
      have hlc : C.length + (B2.length + 1) = (A ++ B).length := by rw [← hC, List.length_append]; rfl
      have hlc2 : (A ++ B).length = A.length + B.length := List.length_append
      have m3 := mRs_step m1 m2
      have zst : rs u (xI (xI (xI (xI u 1011 C.length (nI (mT C).length)) 1012 C.length (nI x.1.length)) 1013 C.length (nI x.2.2.length)) 1014 C.length (nI (bN x.2.1))) [] [1011, 1012, 1013, 1014] := ((((rs.rf u _ _).rI (by decide) (by decide)).rI (by decide) (by decide)).rI (by decide) (by decide)).rI (by decide) (by decide)
      refine v_iload_n X (dk D_Rf_forget 64 rfl) rfl ?_
      refine v_aload_n X (dk D_Rf_forget 65 rfl) rfl ?_
      refine v_getI X (dk D_Rf_forget 66 rfl) F_Rf_188 rfl rfl (hSu.lt (by decide)) ?_
      refine v_icmp_ge (tgt := 174) X (dk D_Rf_forget 67 rfl) (by decide) (fun c107 => absurd c107 (by rw [f1]; exact nI_ge (by omega) (by omega))) (fun _ => ?_)
      refine v_aload_n X (dk D_Rf_forget 68 rfl) rfl ?_
      refine v_getF X (dk D_Rf_forget 69 rfl) F_Rf_34 rfl rfl (hSu.lt (by decide)) (hSu.2 1003 22) ?_
      refine v_iload_n X (dk D_Rf_forget 70 rfl) rfl ?_
      refine v_aload_n X (dk D_Rf_forget 71 rfl) rfl ?_
      refine v_getF X (dk D_Rf_forget 72 rfl) F_Rf_34 rfl rfl (hSu.lt (by decide)) (hSu.2 1003 22) ?_
      refine v_iload_n X (dk D_Rf_forget 73 rfl) rfl ?_
      refine v_iconst (v := 1) X (dk D_Rf_forget 74 rfl) (by decide) ?_
      refine v_iadd X (dk D_Rf_forget 75 rfl) ?_
      rw [nI_1]
      refine v_iald X (dk D_Rf_forget 76 rfl) rfl (hSu.lt (by decide)) (vp_in_nI (show C.length + 1 < 340 by omega) (by decide)) ?_
      rw [nI_clamp (by omega), m2.1.1]
      refine v_iload_n X (dk D_Rf_forget 77 rfl) rfl ?_
      refine v_isub X (dk D_Rf_forget 78 rfl) ?_
      rw [pk_sub (by omega), Nat.add_sub_cancel]
      refine v_iast X (dk D_Rf_forget 79 rfl) rfl (hSu.lt (by decide)) (vp_in_nI (show C.length < 340 by omega) (by decide)) ?_
      rw [nI_clamp (by omega)]
      refine v_aload_n X (dk D_Rf_forget 80 rfl) rfl ?_
      refine v_getF X (dk D_Rf_forget 81 rfl) F_Rf_37 rfl rfl (hSu.lt (by decide)) (hSu.2 1003 23) ?_
      refine v_iload_n X (dk D_Rf_forget 82 rfl) rfl ?_
      refine v_aload_n X (dk D_Rf_forget 83 rfl) rfl ?_
      refine v_getF X (dk D_Rf_forget 84 rfl) F_Rf_37 rfl rfl (hSu.lt (by decide)) (hSu.2 1003 23) ?_
      refine v_iload_n X (dk D_Rf_forget 85 rfl) rfl ?_
      refine v_iconst (v := 1) X (dk D_Rf_forget 86 rfl) (by decide) ?_
      refine v_iadd X (dk D_Rf_forget 87 rfl) ?_
      rw [nI_1]
      refine v_iald X (dk D_Rf_forget 88 rfl) rfl (hSu.lt (by decide)) (vp_in_nI (show C.length + 1 < 340 by omega) (by decide)) ?_
      rw [nI_clamp (by omega), show gI (xI u 1011 C.length (nI (mT C).length)) 1012 (C.length + 1) = nI x.1.length from (gI_na (by decide)).trans m2.1.2.1]
      refine v_iast X (dk D_Rf_forget 89 rfl) rfl (hSu.lt (by decide)) (vp_in_nI (show C.length < 340 by omega) (by decide)) ?_
      rw [nI_clamp (by omega)]
      refine v_aload_n X (dk D_Rf_forget 90 rfl) rfl ?_
      refine v_getF X (dk D_Rf_forget 91 rfl) F_Rf_40 rfl rfl (hSu.lt (by decide)) (hSu.2 1003 24) ?_
      refine v_iload_n X (dk D_Rf_forget 92 rfl) rfl ?_
      refine v_aload_n X (dk D_Rf_forget 93 rfl) rfl ?_
      refine v_getF X (dk D_Rf_forget 94 rfl) F_Rf_40 rfl rfl (hSu.lt (by decide)) (hSu.2 1003 24) ?_
      refine v_iload_n X (dk D_Rf_forget 95 rfl) rfl ?_
      refine v_iconst (v := 1) X (dk D_Rf_forget 96 rfl) (by decide) ?_
      refine v_iadd X (dk D_Rf_forget 97 rfl) ?_
      rw [nI_1]
      refine v_iald X (dk D_Rf_forget 98 rfl) rfl (hSu.lt (by decide)) (vp_in_nI (show C.length + 1 < 340 by omega) (by decide)) ?_
      rw [nI_clamp (by omega), show gI (xI (xI u 1011 C.length (nI (mT C).length)) 1012 C.length (nI x.1.length)) 1013 (C.length + 1) = nI x.2.2.length from (gI_na (by decide)).trans ((gI_na (by decide)).trans m2.1.2.2.1)]
      refine v_iast X (dk D_Rf_forget 99 rfl) rfl (hSu.lt (by decide)) (vp_in_nI (show C.length < 340 by omega) (by decide)) ?_
      rw [nI_clamp (by omega)]
      refine v_aload_n X (dk D_Rf_forget 100 rfl) rfl ?_
      refine v_getF X (dk D_Rf_forget 101 rfl) F_Rf_43 rfl rfl (hSu.lt (by decide)) (hSu.2 1003 25) ?_
      refine v_iload_n X (dk D_Rf_forget 102 rfl) rfl ?_
      refine v_aload_n X (dk D_Rf_forget 103 rfl) rfl ?_
      refine v_getF X (dk D_Rf_forget 104 rfl) F_Rf_43 rfl rfl (hSu.lt (by decide)) (hSu.2 1003 25) ?_
      refine v_iload_n X (dk D_Rf_forget 105 rfl) rfl ?_
      refine v_iconst (v := 1) X (dk D_Rf_forget 106 rfl) (by decide) ?_
      refine v_iadd X (dk D_Rf_forget 107 rfl) ?_
      rw [nI_1]
      refine v_iald X (dk D_Rf_forget 108 rfl) rfl (hSu.lt (by decide)) (vp_in_nI (show C.length + 1 < 340 by omega) (by decide)) ?_
      rw [nI_clamp (by omega), show gI (xI (xI (xI u 1011 C.length (nI (mT C).length)) 1012 C.length (nI x.1.length)) 1013 C.length (nI x.2.2.length)) 1014 (C.length + 1) = nI (bN x.2.1) from (gI_na (by decide)).trans ((gI_na (by decide)).trans ((gI_na (by decide)).trans m2.1.2.2.2))]
      refine v_iast X (dk D_Rf_forget 109 rfl) rfl (hSu.lt (by decide)) (vp_in_nI (show C.length < 340 by omega) (by decide)) ?_
      rw [nI_clamp (by omega)]
      refine v_iinc (v := nI (C ++ [x]).length) (lb := [some (.ref 1003), some (.int (nI A.length)), some (.int (nI (mB e).length)), some (.int (nI (C ++ [x]).length))]) X (dk D_Rf_forget 110 rfl) rfl (by rw [List.length_append]; exact nI_1 C.length) (by decide) rfl ?_
      refine v_goto (tgt := 102) X (dk D_Rf_forget 111 rfl) (by decide) ?_
      exact ih (C ++ [x]) _ (by rw [List.append_assoc]; exact hC) (hs.tr (zst.mono (by simp) (by simp))) ((zst.2 21 (by simp)).trans f1) ((zst.2 27 (by simp)).trans f2) ((zst.2 28 (by simp)).trans f3) ((zst.2 29 (by simp)).trans f4) (fun j hj => by rw [zst.row (by decide) (by decide)]; exact f5 j hj) m3.1 m3.2
  have mid : ∀ (u : mu_T) (k : Int32), rs g u [] [1015] → rwA u 1015 0 (mT (A ++ B)) → Vv pp l ee (rmT 0 0 0) ss mm aa bb mt cd 4 q (MQ bb (Qw q (fun v w => v = none ∧ rs g w.2.2 [21, 27, 28, 29] [1011, 1012, 1013, 1014, 1015] ∧ RM w.2.2 (A ++ B))) aa ss 0 0 (fun a => q.1 ≤ a)) 51 [some (.ref 1003), some (.int (nI A.length)), some (.int (nI (mB e).length)), some (.int k)] [] (0, 0, u) := by
    intro u k hz f5
    have hs : rs g u [21, 27, 28, 29] [1011, 1012, 1013, 1014, 1015] := hz.mono (by simp) (by simp)
    have hSu := hs.S hS
    cases he : e.2.1 with
    | none =>
      have z4 : rs u (xI (xI (xI (xI u 1003 27 (nI (mT (A ++ B)).length)) 1003 28 (nI (cD (A ++ B)))) 1003 29 (nI (cB (A ++ B)))) 1003 21 (nI (A ++ B).length)) [21, 27, 28, 29] [] := ((((rs.rf u _ _).fI (by decide)).fI (by decide)).fI (by decide)).fI (by decide)
      have z3 : rs u (xI (xI (xI (xI u 1003 27 (nI (mT (A ++ B)).length)) 1003 28 (nI (cD (A ++ B)))) 1003 29 (nI (cB (A ++ B)))) 1003 21 (nI (A ++ B).length)) [21, 27, 28, 29] [1011, 1012, 1013, 1014, 1015] := z4.mono (by simp) (by simp)
      have key : ∀ r, r ≠ 1003 → r ≠ 1015 → ∀ j, gI (xI (xI (xI (xI u 1003 27 (nI (mT (A ++ B)).length)) 1003 28 (nI (cD (A ++ B)))) 1003 29 (nI (cB (A ++ B)))) 1003 21 (nI (A ++ B).length)) r j = gI g r j := fun r h3 h5 j => (gI_na h3).trans ((gI_na h3).trans ((gI_na h3).trans ((gI_na h3).trans (hz.row (by simp; exact h5) h3 j))))
      refine v_aload_n X (dk D_Rf_forget 33 rfl) rfl ?_
      refine v_aload_n X (dk D_Rf_forget 34 rfl) rfl ?_
      refine v_getI X (dk D_Rf_forget 35 rfl) F_Rf_191 rfl rfl (hSu.lt (by decide)) ?_
      rw [(hz.2 27 (by decide)).trans hM.2.1]
      refine v_iload_n X (dk D_Rf_forget 36 rfl) rfl ?_
      refine v_isub X (dk D_Rf_forget 37 rfl) ?_
      rw [pk_sub (by omega), show (mT (A ++ e :: B)).length - (mB e).length = (mT (A ++ B)).length by omega]
      refine v_putI X (dk D_Rf_forget 38 rfl) F_Rf_191 CK_Rf rfl rfl (hSu.lt (by decide)) rfl rfl ?_
      refine v_aload_n X (dk D_Rf_forget 39 rfl) rfl ?_
      refine v_getF X (dk D_Rf_forget 40 rfl) F_Rf_43 rfl rfl (hSu.lt (by decide)) (hSu.2 1003 25) ?_
      refine v_iload_n X (dk D_Rf_forget 41 rfl) rfl ?_
      refine v_iald X (dk D_Rf_forget 42 rfl) rfl (hSu.lt (by decide)) (vp_in_nI (show A.length < 340 by omega) (by decide)) ?_
      refine v_if_ne (tgt := 90) X (dk D_Rf_forget 43 rfl) (by decide) (fun c67 => absurd (by rw [nI_clamp (by omega), show gI (xI u 1003 27 (nI (mT (A ++ B)).length)) 1014 A.length = nI (bN e.2.1) from ((gI_na (by decide)).trans (hz.row (by decide) (by decide) _)).trans hat.2.2.2]; exact (bN_0 hM.2.2.2.2.2.2.2.2 hem).mpr he) c67) (fun _ => ?_)
      refine v_aload_n X (dk D_Rf_forget 44 rfl) rfl ?_
      refine v_dup X (dk D_Rf_forget 45 rfl) rfl ?_
      refine v_getI X (dk D_Rf_forget 46 rfl) F_Rf_194 rfl rfl (hSu.lt (by decide)) ?_
      rw [show gI (xI u 1003 27 (nI (mT (A ++ B)).length)) 1003 28 = nI (cD (A ++ B) + 1) from (gI_nk (by decide)).trans (((hz.2 28 (by decide)).trans hM.2.2.1).trans (by rw [cD_app, cD_app, cD, if_pos he]; exact congrArg nI (by omega)))]
      refine v_iconst (v := 1) X (dk D_Rf_forget 47 rfl) (by decide) ?_
      refine v_isub X (dk D_Rf_forget 48 rfl) ?_
      rw [nI_pred]
      refine v_putI X (dk D_Rf_forget 49 rfl) F_Rf_194 CK_Rf rfl rfl (hSu.lt (by decide)) rfl rfl ?_
      refine v_aload_n X (dk D_Rf_forget 50 rfl) rfl ?_
      refine v_aload_n X (dk D_Rf_forget 51 rfl) rfl ?_
      refine v_getI X (dk D_Rf_forget 52 rfl) F_Rf_197 rfl rfl (hSu.lt (by decide)) ?_
      rw [show gI (xI (xI u 1003 27 (nI (mT (A ++ B)).length)) 1003 28 (nI (cD (A ++ B)))) 1003 29 = nI (cB (A ++ B) + (mB e).length) from (gI_nk (by decide)).trans ((gI_nk (by decide)).trans (((hz.2 29 (by decide)).trans hM.2.2.2.1).trans (by rw [cB_app, cB_app, cB, uB, if_pos he]; exact congrArg nI (by omega))))]
      refine v_iload_n X (dk D_Rf_forget 53 rfl) rfl ?_
      refine v_isub X (dk D_Rf_forget 54 rfl) ?_
      rw [pk_sub (by omega), Nat.add_sub_cancel]
      refine v_putI X (dk D_Rf_forget 55 rfl) F_Rf_197 CK_Rf rfl rfl (hSu.lt (by decide)) rfl rfl ?_
      refine v_aload_n X (dk D_Rf_forget 56 rfl) rfl ?_
      refine v_dup X (dk D_Rf_forget 57 rfl) rfl ?_
      refine v_getI X (dk D_Rf_forget 58 rfl) F_Rf_188 rfl rfl (hSu.lt (by decide)) ?_
      rw [show gI (xI (xI (xI u 1003 27 (nI (mT (A ++ B)).length)) 1003 28 (nI (cD (A ++ B)))) 1003 29 (nI (cB (A ++ B)))) 1003 21 = nI ((A ++ B).length + 1) from (gI_nk (by decide)).trans ((gI_nk (by decide)).trans ((gI_nk (by decide)).trans (((hz.2 21 (by decide)).trans hM.1).trans (congrArg nI (by rw [List.length_append, List.length_append, List.length_cons]; omega)))))]
      refine v_iconst (v := 1) X (dk D_Rf_forget 59 rfl) (by decide) ?_
      refine v_isub X (dk D_Rf_forget 60 rfl) ?_
      rw [nI_pred]
      refine v_putI X (dk D_Rf_forget 61 rfl) F_Rf_188 CK_Rf rfl rfl (hSu.lt (by decide)) rfl rfl ?_
      refine v_iload_n X (dk D_Rf_forget 62 rfl) rfl ?_
      refine v_istore_n (lb := [some (.ref 1003), some (.int (nI A.length)), some (.int (nI (mB e).length)), some (.int (nI A.length))]) X (dk D_Rf_forget 63 rfl) (by decide) rfl ?_
      refine lp2 B A (xI (xI (xI (xI u 1003 27 (nI (mT (A ++ B)).length)) 1003 28 (nI (cD (A ++ B)))) 1003 29 (nI (cB (A ++ B)))) 1003 21 (nI (A ++ B).length)) rfl (hs.tr z3) (gI_eq _ _ _ _) ((gI_nk (by decide)).trans ((gI_nk (by decide)).trans ((gI_nk (by decide)).trans (gI_eq _ _ _ _)))) ((gI_nk (by decide)).trans ((gI_nk (by decide)).trans (gI_eq _ _ _ _))) ((gI_nk (by decide)).trans (gI_eq _ _ _ _)) (fun j hj => (z4.row (r := 1015) (by decide) (by decide) _).trans (f5 j hj)) (mRs_of (mRs_app.mp hM.2.2.2.2.2.1).1 (fun j _ _ => ⟨key _ (by decide) (by decide) j, key _ (by decide) (by decide) j, key _ (by decide) (by decide) j, key _ (by decide) (by decide) j⟩)) (by have m9 := (mRs_app.mp hM.2.2.2.2.2.1).2.2; rw [Nat.zero_add, Nat.zero_add] at m9; exact mRs_of m9 (fun j _ _ => ⟨key _ (by decide) (by decide) j, key _ (by decide) (by decide) j, key _ (by decide) (by decide) j, key _ (by decide) (by decide) j⟩))
    | some c =>
      have z4 : rs u (xI (xI u 1003 27 (nI (mT (A ++ B)).length)) 1003 21 (nI (A ++ B).length)) [21, 27, 28, 29] [] := ((rs.rf u _ _).fI (by decide)).fI (by decide)
      have z3 : rs u (xI (xI u 1003 27 (nI (mT (A ++ B)).length)) 1003 21 (nI (A ++ B).length)) [21, 27, 28, 29] [1011, 1012, 1013, 1014, 1015] := z4.mono (by simp) (by simp)
      have key : ∀ r, r ≠ 1003 → r ≠ 1015 → ∀ j, gI (xI (xI u 1003 27 (nI (mT (A ++ B)).length)) 1003 21 (nI (A ++ B).length)) r j = gI g r j := fun r h3 h5 j => (gI_na h3).trans ((gI_na h3).trans (hz.row (by simp; exact h5) h3 j))
      refine v_aload_n X (dk D_Rf_forget 33 rfl) rfl ?_
      refine v_aload_n X (dk D_Rf_forget 34 rfl) rfl ?_
      refine v_getI X (dk D_Rf_forget 35 rfl) F_Rf_191 rfl rfl (hSu.lt (by decide)) ?_
      rw [(hz.2 27 (by decide)).trans hM.2.1]
      refine v_iload_n X (dk D_Rf_forget 36 rfl) rfl ?_
      refine v_isub X (dk D_Rf_forget 37 rfl) ?_
      rw [pk_sub (by omega), show (mT (A ++ e :: B)).length - (mB e).length = (mT (A ++ B)).length by omega]
      refine v_putI X (dk D_Rf_forget 38 rfl) F_Rf_191 CK_Rf rfl rfl (hSu.lt (by decide)) rfl rfl ?_
      refine v_aload_n X (dk D_Rf_forget 39 rfl) rfl ?_
      refine v_getF X (dk D_Rf_forget 40 rfl) F_Rf_43 rfl rfl (hSu.lt (by decide)) (hSu.2 1003 25) ?_
      refine v_iload_n X (dk D_Rf_forget 41 rfl) rfl ?_
      refine v_iald X (dk D_Rf_forget 42 rfl) rfl (hSu.lt (by decide)) (vp_in_nI (show A.length < 340 by omega) (by decide)) ?_
      refine v_if_ne (tgt := 90) X (dk D_Rf_forget 43 rfl) (by decide) (fun _ => ?_) (fun c67 => absurd c67 (by rw [nI_clamp (by omega), show gI (xI u 1003 27 (nI (mT (A ++ B)).length)) 1014 A.length = nI (bN e.2.1) from ((gI_na (by decide)).trans (hz.row (by decide) (by decide) _)).trans hat.2.2.2]; exact fun z => (by rw [(bN_0 hM.2.2.2.2.2.2.2.2 hem).mp z] at he; cases he)))
      refine v_aload_n X (dk D_Rf_forget 56 rfl) rfl ?_
      refine v_dup X (dk D_Rf_forget 57 rfl) rfl ?_
      refine v_getI X (dk D_Rf_forget 58 rfl) F_Rf_188 rfl rfl (hSu.lt (by decide)) ?_
      rw [show gI (xI u 1003 27 (nI (mT (A ++ B)).length)) 1003 21 = nI ((A ++ B).length + 1) from (gI_nk (by decide)).trans (((hz.2 21 (by decide)).trans hM.1).trans (congrArg nI (by rw [List.length_append, List.length_append, List.length_cons]; omega)))]
      refine v_iconst (v := 1) X (dk D_Rf_forget 59 rfl) (by decide) ?_
      refine v_isub X (dk D_Rf_forget 60 rfl) ?_
      rw [nI_pred]
      refine v_putI X (dk D_Rf_forget 61 rfl) F_Rf_188 CK_Rf rfl rfl (hSu.lt (by decide)) rfl rfl ?_
      refine v_iload_n X (dk D_Rf_forget 62 rfl) rfl ?_
      refine v_istore_n (lb := [some (.ref 1003), some (.int (nI A.length)), some (.int (nI (mB e).length)), some (.int (nI A.length))]) X (dk D_Rf_forget 63 rfl) (by decide) rfl ?_
      refine lp2 B A (xI (xI u 1003 27 (nI (mT (A ++ B)).length)) 1003 21 (nI (A ++ B).length)) rfl (hs.tr z3) (gI_eq _ _ _ _) ((gI_nk (by decide)).trans (gI_eq _ _ _ _)) ((gI_nk (by decide)).trans ((gI_nk (by decide)).trans (((hz.2 28 (by decide)).trans hM.2.2.1).trans (by rw [cD_app, cD_app, cD, if_neg (by rw [he]; exact fun z => (by cases z)), Nat.zero_add])))) ((gI_nk (by decide)).trans ((gI_nk (by decide)).trans (((hz.2 29 (by decide)).trans hM.2.2.2.1).trans (by rw [cB_app, cB_app, cB, uB, if_neg (by rw [he]; exact fun z => (by cases z)), Nat.zero_add])))) (fun j hj => (z4.row (r := 1015) (by decide) (by decide) _).trans (f5 j hj)) (mRs_of (mRs_app.mp hM.2.2.2.2.2.1).1 (fun j _ _ => ⟨key _ (by decide) (by decide) j, key _ (by decide) (by decide) j, key _ (by decide) (by decide) j, key _ (by decide) (by decide) j⟩)) (by have m9 := (mRs_app.mp hM.2.2.2.2.2.1).2.2; rw [Nat.zero_add, Nat.zero_add] at m9; exact mRs_of m9 (fun j _ _ => ⟨key _ (by decide) (by decide) j, key _ (by decide) (by decide) j, key _ (by decide) (by decide) j, key _ (by decide) (by decide) j⟩))
  have lp1 : ∀ (d j : Nat) (u : mu_T), (mT A).length + j + d = (mT (A ++ B)).length → rs g u [] [1015] → (∀ i, i < (mT A).length + j → gI u 1015 i = (mT (A ++ B)).getD i 0) → (∀ i, (mT A).length + j ≤ i → i < (mT (A ++ B)).length → gI u 1015 (i + (mB e).length) = (mT (A ++ B)).getD i 0) → Vv pp l ee (rmT 0 0 0) ss mm aa bb mt cd 4 q (MQ bb (Qw q (fun v w => v = none ∧ rs g w.2.2 [21, 27, 28, 29] [1011, 1012, 1013, 1014, 1015] ∧ RM w.2.2 (A ++ B))) aa ss 0 0 (fun a => q.1 ≤ a)) 21 [some (.ref 1003), some (.int (nI A.length)), some (.int (nI (mB e).length)), some (.int (nI ((mT A).length + j)))] [] (0, 0, u) := by
    intro d
    induction d with
    | zero =>
      intro j u hjd hz h1 h2
      have hSu := hz.S hS
      refine v_iload_n X (dk D_Rf_forget 15 rfl) rfl ?_
      refine v_iload_n X (dk D_Rf_forget 16 rfl) rfl ?_
      refine v_iadd X (dk D_Rf_forget 17 rfl) ?_
      refine v_aload_n X (dk D_Rf_forget 18 rfl) rfl ?_
      refine v_getI X (dk D_Rf_forget 19 rfl) F_Rf_191 rfl rfl (hSu.lt (by decide)) ?_
      refine v_icmp_ge (tgt := 51) X (dk D_Rf_forget 20 rfl) (by decide) (fun _ => ?_) (fun c28 => absurd (by rw [(hz.2 27 (by decide)).trans hM.2.1, nI_add]; exact nI_le (by omega) (by omega)) c28)
      exact mid u _ hz (fun i hi => by rw [Nat.zero_add]; exact h1 i (by omega))
    | succ d ih =>
      intro j u hjd hz h1 h2
      have hSu := hz.S hS
      refine v_iload_n X (dk D_Rf_forget 15 rfl) rfl ?_
      refine v_iload_n X (dk D_Rf_forget 16 rfl) rfl ?_
      refine v_iadd X (dk D_Rf_forget 17 rfl) ?_
      refine v_aload_n X (dk D_Rf_forget 18 rfl) rfl ?_
      refine v_getI X (dk D_Rf_forget 19 rfl) F_Rf_191 rfl rfl (hSu.lt (by decide)) ?_
      refine v_icmp_ge (tgt := 51) X (dk D_Rf_forget 20 rfl) (by decide) (fun c28 => absurd c28 (by rw [(hz.2 27 (by decide)).trans hM.2.1, nI_add]; exact nI_ge (by omega) (by omega))) (fun _ => ?_)
      refine v_aload_n X (dk D_Rf_forget 21 rfl) rfl ?_
      refine v_getF X (dk D_Rf_forget 22 rfl) F_Rf_46 rfl rfl (hSu.lt (by decide)) (hSu.2 1003 26) ?_
      refine v_iload_n X (dk D_Rf_forget 23 rfl) rfl ?_
      refine v_aload_n X (dk D_Rf_forget 24 rfl) rfl ?_
      refine v_getF X (dk D_Rf_forget 25 rfl) F_Rf_46 rfl rfl (hSu.lt (by decide)) (hSu.2 1003 26) ?_
      refine v_iload_n X (dk D_Rf_forget 26 rfl) rfl ?_
      refine v_iload_n X (dk D_Rf_forget 27 rfl) rfl ?_
      refine v_iadd X (dk D_Rf_forget 28 rfl) ?_
      refine v_bald X (dk D_Rf_forget 29 rfl) rfl (hSu.lt (by decide)) (by rw [nI_add]; exact vp_in_nI (show (mT A).length + j + (mB e).length < 16684 by omega) (by decide)) ?_
      rw [nI_add, nI_clamp (by omega), h2 ((mT A).length + j) (by omega) (by omega)]
      refine v_bast X (dk D_Rf_forget 30 rfl) rfl (hSu.lt (by decide)) (vp_in_nI (show (mT A).length + j < 16684 by omega) (by decide)) rfl ?_
      rw [nI_clamp (by omega), show ((mT (A ++ B)).getD ((mT A).length + j) 0).toInt8.toInt32 = (mT (A ++ B)).getD ((mT A).length + j) 0 from hmb _ (by omega)]
      refine v_iinc (v := nI ((mT A).length + (j + 1))) (lb := [some (.ref 1003), some (.int (nI A.length)), some (.int (nI (mB e).length)), some (.int (nI ((mT A).length + (j + 1))))]) X (dk D_Rf_forget 31 rfl) rfl (nI_1 _) (by decide) rfl ?_
      refine v_goto (tgt := 21) X (dk D_Rf_forget 32 rfl) (by decide) ?_
      exact ih (j + 1) _ (by omega) (hz.rI (by decide) (by decide)) (fun i hi => by by_cases c : i = (mT A).length + j; rw [c, gI_eq]; rw [gI_nk c]; exact h1 i (by omega)) (fun i hi hl => by rw [gI_nk (by omega)]; exact h2 i (by omega) hl)
  refine v_aload_n X (dk D_Rf_forget 0 rfl) rfl ?_
  refine v_getF X (dk D_Rf_forget 1 rfl) F_Rf_37 rfl rfl (hS.lt (by decide)) (hS.2 1003 23) ?_
  refine v_iload_n X (dk D_Rf_forget 2 rfl) rfl ?_
  refine v_iald X (dk D_Rf_forget 3 rfl) rfl (hS.lt (by decide)) (vp_in_nI (show A.length < 340 by omega) (by decide)) ?_
  rw [nI_clamp (by omega), hat.2.1]
  refine v_aload_n X (dk D_Rf_forget 4 rfl) rfl ?_
  refine v_getF X (dk D_Rf_forget 5 rfl) F_Rf_40 rfl rfl (hS.lt (by decide)) (hS.2 1003 24) ?_
  refine v_iload_n X (dk D_Rf_forget 6 rfl) rfl ?_
  refine v_iald X (dk D_Rf_forget 7 rfl) rfl (hS.lt (by decide)) (vp_in_nI (show A.length < 340 by omega) (by decide)) ?_
  rw [nI_clamp (by omega), hat.2.2.1]
  refine v_iadd X (dk D_Rf_forget 8 rfl) ?_
  rw [nI_add, ← hmBl]
  refine v_istore_n (lb := [some (.ref 1003), some (.int (nI A.length)), some (.int (nI (mB e).length)), none]) X (dk D_Rf_forget 9 rfl) (by decide) rfl ?_
  refine v_aload_n X (dk D_Rf_forget 10 rfl) rfl ?_
  refine v_getF X (dk D_Rf_forget 11 rfl) F_Rf_34 rfl rfl (hS.lt (by decide)) (hS.2 1003 22) ?_
  refine v_iload_n X (dk D_Rf_forget 12 rfl) rfl ?_
  refine v_iald X (dk D_Rf_forget 13 rfl) rfl (hS.lt (by decide)) (vp_in_nI (show A.length < 340 by omega) (by decide)) ?_
  rw [nI_clamp (by omega), hat.1]
  refine v_istore_n (lb := [some (.ref 1003), some (.int (nI A.length)), some (.int (nI (mB e).length)), some (.int (nI (mT A).length))]) X (dk D_Rf_forget 14 rfl) (by decide) rfl ?_
  exact lp1 (mT B).length 0 g (by rw [mT_app, List.length_append]; omega) (rs.rf g _ _) (fun i hi => by have := hM.2.2.2.2.1 i (by omega); rw [Nat.zero_add] at this; rw [this]; exact mT_mid.1 hi) (fun i hi hl => by have := hM.2.2.2.2.1 (i + (mB e).length) (by omega); rw [Nat.zero_add] at this; rw [this]; exact mT_mid.2 hi)
