/-! the reference: undivert, changequote -/
theorem brX_0 {cur : Int32} {D : Nat → List Int32} : brX cur D 0 = D := if_pos (Or.inl (by decide))
theorem udA_c {cur : Int32} {d i : Nat} {D : Nat → List Int32} : udA cur (d + 1) i D = udA cur d (i + 1) (brX cur D (nI i)) := rfl
theorem udL_c {cur : Int32} {a : List Int32} {as : List (List Int32)} {D : Nat → List Int32} : udL cur (a :: as) D = match nmX a with | none => (36, D) | some v => udL cur as (brX cur D v) := rfl
set_option maxHeartbeats 4000000 in
set_option maxRecDepth 100000 in
theorem r_actUndivert (l : Launch) (q : ev_T) {f : Fr} {r : List Fr} {cur : Int32} {D : Nat → List Int32} {g : mu_T} (hS : Shp g) (he : gI g 1003 2 = 0) (hC : AC g f r) (hD : DVR g cur D) : Ctr l q M_Rf_actOnInput 4 [.ref 1003, .int 16, .int (nI (na r)), .int (nI f.2.1.length)] (0, 0, g) (fun v w => v = none ∧ rs g w.2.2 [2, 3, 32] [1016, 1017] ∧ gI w.2.2 1003 2 = (udX cur f.2.1 D).1 ∧ (¬ (udX cur f.2.1 D).1 = 0 → gI w.2.2 1003 3 = gI g 1003 10) ∧ ((udX cur f.2.1 D).1 = 0 → DVR w.2.2 cur (udX cur f.2.1 D).2)) := by
  have hna : na r + f.2.1.length ≤ 8192 := hC.1.2.2.1
  have hle := ag_le (f := f) (r := r) 0
  have h16 := hC.1.1.2.2
  refine Ctr.mk (lb := [some (.ref 1003), some (.int 16), some (.int (nI (na r))), some (.int (nI f.2.1.length)), none, none]) (by decide +kernel) (Nat.le_of_ble_eq_true rfl) rfl rfl ?_
  intro pp ee ss mm aa bb mt cd X hrt hlk hnm
  have errx : ∀ (h : mu_T) (k : Nat), k ≤ f.2.1.length → ∀ {D2 : Nat → List Int32}, (udX cur f.2.1 D) = (36, D2) → Shp h → rs g h [2, 3, 32] [1016, 1017] → gI h 1003 2 = 36 → gI h 1003 3 = gI g 1003 10 → Vv pp l ee (rmT 4 0 0) ss mm aa bb mt cd 6 q (MQ bb (Qw q (fun v w => v = none ∧ rs g w.2.2 [2, 3, 32] [1016, 1017] ∧ gI w.2.2 1003 2 = (udX cur f.2.1 D).1 ∧ (¬ (udX cur f.2.1 D).1 = 0 → gI w.2.2 1003 3 = gI g 1003 10) ∧ ((udX cur f.2.1 D).1 = 0 → DVR w.2.2 cur (udX cur f.2.1 D).2))) aa ss 0 0 (fun a => q.1 ≤ a)) 159 [some (.ref 1003), some (.int 16), some (.int (nI (na r))), some (.int (nI f.2.1.length)), some (.int (nI (k + 1))), none] [] (0, 0, h) := by
    intro h k hk D2 hU hSh hs e2 e3
    by_cases c : f.2.1.length ≤ k
    · refine v_iload X (dk D_Rf_actOnInput 77 rfl) rfl ?_
      refine v_iload_n X (dk D_Rf_actOnInput 78 rfl) rfl ?_
      refine v_icmp_gt (tgt := 200) X (dk D_Rf_actOnInput 79 rfl) (by decide) (fun _ => ?_) (fun c162 => absurd (nI_lt (by omega) (by omega)) c162)
      refine v_goto (tgt := 209) X (dk D_Rf_actOnInput 96 rfl) (by decide) ?_
      exact v_vret X hlk hrt (dk D_Rf_actOnInput 101 rfl) ⟨rfl, hs, by rw [hU]; exact e2, fun _ => e3, fun z => by rw [hU] at z; exact absurd z (show ¬ (36 : Int32) = 0 by decide)⟩
    · refine v_iload X (dk D_Rf_actOnInput 77 rfl) rfl ?_
      refine v_iload_n X (dk D_Rf_actOnInput 78 rfl) rfl ?_
      refine v_icmp_gt (tgt := 200) X (dk D_Rf_actOnInput 79 rfl) (by decide) (fun c162 => absurd c162 (nI_nlt (by omega) (by omega))) (fun _ => ?_)
      refine v_aload_n X (dk D_Rf_actOnInput 80 rfl) rfl ?_
      refine v_getI X (dk D_Rf_actOnInput 81 rfl) F_Rf_72 rfl rfl (hSh.lt (by decide)) ?_
      refine v_if_ne (tgt := 200) X (dk D_Rf_actOnInput 82 rfl) (by decide) (fun _ => ?_) (fun c169 => absurd c169 (by rw [e2]; decide))
      refine v_goto (tgt := 209) X (dk D_Rf_actOnInput 96 rfl) (by decide) ?_
      exact v_vret X hlk hrt (dk D_Rf_actOnInput 101 rfl) ⟨rfl, hs, by rw [hU]; exact e2, fun _ => e3, fun z => by rw [hU] at z; exact absurd z (show ¬ (36 : Int32) = 0 by decide)⟩
  have loop : ∀ (d : Nat) (D1 : Nat → List Int32) (k : Nat) (h : mu_T), rs g h [2, 3, 32] [1016, 1017] → gI h 1003 2 = 0 → DVR h cur D1 → k + d = f.2.1.length → k = k → udL cur (f.2.1.drop k) D1 = (udX cur f.2.1 D) → Vv pp l ee (rmT 4 0 0) ss mm aa bb mt cd 6 q (MQ bb (Qw q (fun v w => v = none ∧ rs g w.2.2 [2, 3, 32] [1016, 1017] ∧ gI w.2.2 1003 2 = (udX cur f.2.1 D).1 ∧ (¬ (udX cur f.2.1 D).1 = 0 → gI w.2.2 1003 3 = gI g 1003 10) ∧ ((udX cur f.2.1 D).1 = 0 → DVR w.2.2 cur (udX cur f.2.1 D).2))) aa ss 0 0 (fun a => q.1 ≤ a)) 159 [some (.ref 1003), some (.int 16), some (.int (nI (na r))), some (.int (nI f.2.1.length)), some (.int (nI (k + 1))), none] [] (0, 0, h) := by
    intro d
    induction d with
    | zero =>
      intro D1 k h hs he0 hD hkd _ hU
      have hSh := hs.S hS
      have hdr : f.2.1.drop k = [] := List.drop_eq_nil_of_le (by omega)
      refine v_iload X (dk D_Rf_actOnInput 77 rfl) rfl ?_
      refine v_iload_n X (dk D_Rf_actOnInput 78 rfl) rfl ?_
      refine v_icmp_gt (tgt := 200) X (dk D_Rf_actOnInput 79 rfl) (by decide) (fun _ => ?_) (fun c162 => absurd (nI_lt (by omega) (by omega)) c162)
      refine v_goto (tgt := 209) X (dk D_Rf_actOnInput 96 rfl) (by decide) ?_
      exact v_vret X hlk hrt (dk D_Rf_actOnInput 101 rfl) ⟨rfl, hs, by rw [← hU, hdr, udL]; exact he0, fun z => by rw [← hU, hdr, udL] at z; exact absurd rfl z, fun _ => by rw [← hU, hdr, udL]; exact hD⟩
    | succ d ih =>
      intro D1 k h hs he0 hD hkd _ hU
      have hSh := hs.S hS
      have hCh := hC.rs hs (by decide) (by decide) (by decide)
      have hdr : f.2.1.drop k = (f.2.1.getD k []) :: f.2.1.drop (k + 1) := drop_getL (by omega)
      have z3 : rs h (xI (xI h 1003 2 36) 1003 3 (gI h 1003 10)) [2, 3] [] := ((rs.rf h _ _).fI (by decide)).fI (by decide)
      have hS3 := z3.S hSh
      rcases on_or (nmX (f.2.1.getD k [])) with h1 | ⟨y, h1⟩
      · refine v_iload X (dk D_Rf_actOnInput 77 rfl) rfl ?_
        refine v_iload_n X (dk D_Rf_actOnInput 78 rfl) rfl ?_
        refine v_icmp_gt (tgt := 200) X (dk D_Rf_actOnInput 79 rfl) (by decide) (fun c162 => absurd c162 (nI_nlt (by omega) (by omega))) (fun _ => ?_)
        refine v_aload_n X (dk D_Rf_actOnInput 80 rfl) rfl ?_
        refine v_getI X (dk D_Rf_actOnInput 81 rfl) F_Rf_72 rfl rfl (hSh.lt (by decide)) ?_
        refine v_if_ne (tgt := 200) X (dk D_Rf_actOnInput 82 rfl) (by decide) (fun c169 => absurd he0 c169) (fun _ => ?_)
        refine v_aload_n X (dk D_Rf_actOnInput 83 rfl) rfl ?_
        refine v_iload_n X (dk D_Rf_actOnInput 84 rfl) rfl ?_
        refine v_iload X (dk D_Rf_actOnInput 85 rfl) rfl ?_
        refine v_invV (As := [.int (nI (na r)), .int (nI (k + 1))]) (st := []) X (r_number l q (i := k) hSh hCh (by omega)) (dk D_Rf_actOnInput 86 rfl) G_Rf_299 K_Rf_number V_Rf_number rfl rfl (hSh.lt (by decide)) rfl rfl (Nat.le_of_ble_eq_true rfl) (Nat.le_of_ble_eq_true rfl) (Nat.le_of_ble_eq_true rfl) (Nat.le_of_ble_eq_true rfl) (Nat.le_of_ble_eq_true rfl) ?_
        rintro v w1 ⟨x1, rfl, p1, p2⟩
        rw [p2 h1, if_pos he0]
        show Vv _ _ _ _ _ _ _ _ _ _ _ _ _ _ _ [.int x1] (0, 0, (xI (xI h 1003 2 36) 1003 3 (gI h 1003 10)))
        refine v_istore (lb := [some (.ref 1003), some (.int 16), some (.int (nI (na r))), some (.int (nI f.2.1.length)), some (.int (nI (k + 1))), some (.int x1)]) X (dk D_Rf_actOnInput 87 rfl) (by decide) rfl ?_
        refine v_aload_n X (dk D_Rf_actOnInput 88 rfl) rfl ?_
        refine v_getI X (dk D_Rf_actOnInput 89 rfl) F_Rf_72 rfl rfl (hS3.lt (by decide)) ?_
        refine v_if_ne (tgt := 194) X (dk D_Rf_actOnInput 90 rfl) (by decide) (fun _ => ?_) (fun c185 => absurd c185 (by rw [gI_nk (by decide), gI_eq]; decide))
        refine v_iinc (v := nI (k + 1 + 1)) (lb := [some (.ref 1003), some (.int 16), some (.int (nI (na r))), some (.int (nI f.2.1.length)), some (.int (nI (k + 1 + 1))), some (.int x1)]) X (dk D_Rf_actOnInput 94 rfl) rfl (nI_1 _) (by decide) rfl ?_
        refine v_goto (tgt := 159) X (dk D_Rf_actOnInput 95 rfl) (by decide) ?_
        exact v_weak (la := [some (.ref 1003), some (.int 16), some (.int (nI (na r))), some (.int (nI f.2.1.length)), some (.int (nI (k + 1 + 1))), none]) ⟨rfl, rfl, rfl, rfl, rfl, trivial⟩ <| errx _ (k + 1) (by omega) (by rw [← hU, hdr, udL_c, h1]) hS3 (hs.tr (z3.mono (by simp) (by simp))) ((gI_nk (by decide)).trans (gI_eq _ _ _ _)) ((gI_eq _ _ _ _).trans (hs.2 10 (by decide)))
      · refine v_iload X (dk D_Rf_actOnInput 77 rfl) rfl ?_
        refine v_iload_n X (dk D_Rf_actOnInput 78 rfl) rfl ?_
        refine v_icmp_gt (tgt := 200) X (dk D_Rf_actOnInput 79 rfl) (by decide) (fun c162 => absurd c162 (nI_nlt (by omega) (by omega))) (fun _ => ?_)
        refine v_aload_n X (dk D_Rf_actOnInput 80 rfl) rfl ?_
        refine v_getI X (dk D_Rf_actOnInput 81 rfl) F_Rf_72 rfl rfl (hSh.lt (by decide)) ?_
        refine v_if_ne (tgt := 200) X (dk D_Rf_actOnInput 82 rfl) (by decide) (fun c169 => absurd he0 c169) (fun _ => ?_)
        refine v_aload_n X (dk D_Rf_actOnInput 83 rfl) rfl ?_
        refine v_iload_n X (dk D_Rf_actOnInput 84 rfl) rfl ?_
        refine v_iload X (dk D_Rf_actOnInput 85 rfl) rfl ?_
        refine v_invV (As := [.int (nI (na r)), .int (nI (k + 1))]) (st := []) X (r_number l q (i := k) hSh hCh (by omega)) (dk D_Rf_actOnInput 86 rfl) G_Rf_299 K_Rf_number V_Rf_number rfl rfl (hSh.lt (by decide)) rfl rfl (Nat.le_of_ble_eq_true rfl) (Nat.le_of_ble_eq_true rfl) (Nat.le_of_ble_eq_true rfl) (Nat.le_of_ble_eq_true rfl) (Nat.le_of_ble_eq_true rfl) ?_
        rintro v w1 ⟨x1, rfl, p1, p2⟩
        obtain ⟨e1, hw⟩ := p1 _ h1
        rw [hw, e1]
        show Vv _ _ _ _ _ _ _ _ _ _ _ _ _ _ _ [.int y] (0, 0, h)
        refine v_istore (lb := [some (.ref 1003), some (.int 16), some (.int (nI (na r))), some (.int (nI f.2.1.length)), some (.int (nI (k + 1))), some (.int y)]) X (dk D_Rf_actOnInput 87 rfl) (by decide) rfl ?_
        refine v_aload_n X (dk D_Rf_actOnInput 88 rfl) rfl ?_
        refine v_getI X (dk D_Rf_actOnInput 89 rfl) F_Rf_72 rfl rfl (hSh.lt (by decide)) ?_
        refine v_if_ne (tgt := 194) X (dk D_Rf_actOnInput 90 rfl) (by decide) (fun c185 => absurd he0 c185) (fun _ => ?_)
        refine v_aload_n X (dk D_Rf_actOnInput 91 rfl) rfl ?_
        refine v_iload X (dk D_Rf_actOnInput 92 rfl) rfl ?_
        refine v_invV (As := [.int y]) (st := []) X (r_undivert l q (v0 := y) hSh hD) (dk D_Rf_actOnInput 93 rfl) G_Rf_325 K_Rf_undivert V_Rf_undivert rfl rfl (hSh.lt (by decide)) rfl rfl (Nat.le_of_ble_eq_true rfl) (Nat.le_of_ble_eq_true rfl) (Nat.le_of_ble_eq_true rfl) (Nat.le_of_ble_eq_true rfl) (Nat.le_of_ble_eq_true rfl) ?_
        rintro v w2 ⟨rfl, a1, a2⟩
        show Vv _ _ _ _ _ _ _ _ _ _ _ _ _ _ _ [] (0, 0, w2.2.2)
        refine v_iinc (v := nI (k + 1 + 1)) (lb := [some (.ref 1003), some (.int 16), some (.int (nI (na r))), some (.int (nI f.2.1.length)), some (.int (nI (k + 1 + 1))), some (.int y)]) X (dk D_Rf_actOnInput 94 rfl) rfl (nI_1 _) (by decide) rfl ?_
        refine v_goto (tgt := 159) X (dk D_Rf_actOnInput 95 rfl) (by decide) ?_
        exact v_weak (la := [some (.ref 1003), some (.int 16), some (.int (nI (na r))), some (.int (nI f.2.1.length)), some (.int (nI (k + 1 + 1))), none]) ⟨rfl, rfl, rfl, rfl, rfl, trivial⟩ <| ih _ (k + 1) w2.2.2 (hs.tr (a1.mono (by simp) (by simp))) ((a1.2 2 (by decide)).trans he0) a2 (by omega) rfl (by rw [← hU, hdr, udL_c, h1])
  have last : ∀ (h : mu_T) {D1 : Nat → List Int32}, rs g h [2, 3, 32] [1016, 1017] → gI h 1003 2 = 0 → DVR h cur D1 → f.2.1.length ≤ 1 → (udX cur f.2.1 D) = (0, D1) → Vv pp l ee (rmT 4 0 0) ss mm aa bb mt cd 6 q (MQ bb (Qw q (fun v w => v = none ∧ rs g w.2.2 [2, 3, 32] [1016, 1017] ∧ gI w.2.2 1003 2 = (udX cur f.2.1 D).1 ∧ (¬ (udX cur f.2.1 D).1 = 0 → gI w.2.2 1003 3 = gI g 1003 10) ∧ ((udX cur f.2.1 D).1 = 0 → DVR w.2.2 cur (udX cur f.2.1 D).2))) aa ss 0 0 (fun a => q.1 ≤ a)) 159 [some (.ref 1003), some (.int 16), some (.int (nI (na r))), some (.int (nI f.2.1.length)), some (.int (nI (0 + 1 + 1))), none] [] (0, 0, h) := by
    intro h D1 hs he0 hD hl hU
    have hSh := hs.S hS
    refine v_iload X (dk D_Rf_actOnInput 77 rfl) rfl ?_
    refine v_iload_n X (dk D_Rf_actOnInput 78 rfl) rfl ?_
    refine v_icmp_gt (tgt := 200) X (dk D_Rf_actOnInput 79 rfl) (by decide) (fun _ => ?_) (fun c162 => absurd (nI_lt (b := 0 + 1 + 1) (by omega) (by decide)) c162)
    refine v_goto (tgt := 209) X (dk D_Rf_actOnInput 96 rfl) (by decide) ?_
    exact v_vret X hlk hrt (dk D_Rf_actOnInput 101 rfl) ⟨rfl, hs, by rw [hU]; exact he0, fun z => by rw [hU] at z; exact absurd rfl z, fun _ => by rw [hU]; exact hD⟩
  have fin : ∀ (h : mu_T) (k : Nat) {D1 : Nat → List Int32}, rs g h [2, 3, 32] [1016, 1017] → gI h 1003 2 = 0 → DVR h cur D1 → (f.2.1.length = 0 ∨ (f.2.1.length = 1 ∧ (f.2.1.getD 0 []).length = 0)) → (udX cur f.2.1 D) = (0, D1) → Vv pp l ee (rmT 4 0 0) ss mm aa bb mt cd 6 q (MQ bb (Qw q (fun v w => v = none ∧ rs g w.2.2 [2, 3, 32] [1016, 1017] ∧ gI w.2.2 1003 2 = (udX cur f.2.1 D).1 ∧ (¬ (udX cur f.2.1 D).1 = 0 → gI w.2.2 1003 3 = gI g 1003 10) ∧ ((udX cur f.2.1 D).1 = 0 → DVR w.2.2 cur (udX cur f.2.1 D).2))) aa ss 0 0 (fun a => q.1 ≤ a)) 156 [some (.ref 1003), some (.int 16), some (.int (nI (na r))), some (.int (nI f.2.1.length)), some (.int (nI k)), none] [] (0, 0, h) := by
    intro h k D1 hs he0 hD hc hU
    have hSh := hs.S hS
    have hCh := hC.rs hs (by decide) (by decide) (by decide)
    rcases hc with hc | ⟨hc, hc0⟩
    · refine v_iconst (v := nI (0 + 1)) X (dk D_Rf_actOnInput 75 rfl) (by decide) ?_
      refine v_istore (lb := [some (.ref 1003), some (.int 16), some (.int (nI (na r))), some (.int (nI f.2.1.length)), some (.int (nI (0 + 1))), none]) X (dk D_Rf_actOnInput 76 rfl) (by decide) rfl ?_
      refine v_iload X (dk D_Rf_actOnInput 77 rfl) rfl ?_
      refine v_iload_n X (dk D_Rf_actOnInput 78 rfl) rfl ?_
      refine v_icmp_gt (tgt := 200) X (dk D_Rf_actOnInput 79 rfl) (by decide) (fun _ => ?_) (fun c162 => absurd (nI_lt (b := 1) (by omega) (by decide)) c162)
      refine v_goto (tgt := 209) X (dk D_Rf_actOnInput 96 rfl) (by decide) ?_
      exact v_vret X hlk hrt (dk D_Rf_actOnInput 101 rfl) ⟨rfl, hs, by rw [hU]; exact he0, fun z => by rw [hU] at z; exact absurd rfl z, fun _ => by rw [hU]; exact hD⟩
    · have hn0 : nmX (f.2.1.getD 0 []) = some 0 := by rw [List.eq_nil_of_length_eq_zero hc0]; rfl
      refine v_iconst (v := nI (0 + 1)) X (dk D_Rf_actOnInput 75 rfl) (by decide) ?_
      refine v_istore (lb := [some (.ref 1003), some (.int 16), some (.int (nI (na r))), some (.int (nI f.2.1.length)), some (.int (nI (0 + 1))), none]) X (dk D_Rf_actOnInput 76 rfl) (by decide) rfl ?_
      refine v_iload X (dk D_Rf_actOnInput 77 rfl) rfl ?_
      refine v_iload_n X (dk D_Rf_actOnInput 78 rfl) rfl ?_
      refine v_icmp_gt (tgt := 200) X (dk D_Rf_actOnInput 79 rfl) (by decide) (fun c162 => absurd c162 (nI_nlt (b := 0 + 1) (by omega) (by omega))) (fun _ => ?_)
      refine v_aload_n X (dk D_Rf_actOnInput 80 rfl) rfl ?_
      refine v_getI X (dk D_Rf_actOnInput 81 rfl) F_Rf_72 rfl rfl (hSh.lt (by decide)) ?_
      refine v_if_ne (tgt := 200) X (dk D_Rf_actOnInput 82 rfl) (by decide) (fun c169 => absurd he0 c169) (fun _ => ?_)
      refine v_aload_n X (dk D_Rf_actOnInput 83 rfl) rfl ?_
      refine v_iload_n X (dk D_Rf_actOnInput 84 rfl) rfl ?_
      refine v_iload X (dk D_Rf_actOnInput 85 rfl) rfl ?_
      refine v_invV (As := [.int (nI (na r)), .int (nI (0 + 1))]) (st := []) X (r_number l q (i := 0) hSh hCh (by omega)) (dk D_Rf_actOnInput 86 rfl) G_Rf_299 K_Rf_number V_Rf_number rfl rfl (hSh.lt (by decide)) rfl rfl (Nat.le_of_ble_eq_true rfl) (Nat.le_of_ble_eq_true rfl) (Nat.le_of_ble_eq_true rfl) (Nat.le_of_ble_eq_true rfl) (Nat.le_of_ble_eq_true rfl) ?_
      rintro v w1 ⟨x1, rfl, p1, p2⟩
      obtain ⟨e1, hw⟩ := p1 0 hn0
      rw [hw, e1]
      show Vv _ _ _ _ _ _ _ _ _ _ _ _ _ _ _ [.int 0] (0, 0, h)
      refine v_istore (lb := [some (.ref 1003), some (.int 16), some (.int (nI (na r))), some (.int (nI f.2.1.length)), some (.int (nI (0 + 1))), some (.int 0)]) X (dk D_Rf_actOnInput 87 rfl) (by decide) rfl ?_
      refine v_aload_n X (dk D_Rf_actOnInput 88 rfl) rfl ?_
      refine v_getI X (dk D_Rf_actOnInput 89 rfl) F_Rf_72 rfl rfl (hSh.lt (by decide)) ?_
      refine v_if_ne (tgt := 194) X (dk D_Rf_actOnInput 90 rfl) (by decide) (fun c185 => absurd he0 c185) (fun _ => ?_)
      refine v_aload_n X (dk D_Rf_actOnInput 91 rfl) rfl ?_
      refine v_iload X (dk D_Rf_actOnInput 92 rfl) rfl ?_
      refine v_invV (As := [.int 0]) (st := []) X (r_undivert l q (v0 := 0) hSh hD) (dk D_Rf_actOnInput 93 rfl) G_Rf_325 K_Rf_undivert V_Rf_undivert rfl rfl (hSh.lt (by decide)) rfl rfl (Nat.le_of_ble_eq_true rfl) (Nat.le_of_ble_eq_true rfl) (Nat.le_of_ble_eq_true rfl) (Nat.le_of_ble_eq_true rfl) (Nat.le_of_ble_eq_true rfl) ?_
      rintro v w2 ⟨rfl, a1, a2⟩
      show Vv _ _ _ _ _ _ _ _ _ _ _ _ _ _ _ [] (0, 0, w2.2.2)
      refine v_iinc (v := nI (0 + 1 + 1)) (lb := [some (.ref 1003), some (.int 16), some (.int (nI (na r))), some (.int (nI f.2.1.length)), some (.int (nI (0 + 1 + 1))), some (.int 0)]) X (dk D_Rf_actOnInput 94 rfl) rfl (nI_1 _) (by decide) rfl ?_
      refine v_goto (tgt := 159) X (dk D_Rf_actOnInput 95 rfl) (by decide) ?_
      exact v_weak (la := [some (.ref 1003), some (.int 16), some (.int (nI (na r))), some (.int (nI f.2.1.length)), some (.int (nI (0 + 1 + 1))), none]) ⟨rfl, rfl, rfl, rfl, rfl, trivial⟩ <| last _ (hs.tr (a1.mono (by simp) (by simp))) ((a1.2 2 (by decide)).trans he0) (by rw [brX_0] at a2; exact a2) (by omega) hU
  have lpa : (f.2.1.length = 0 ∨ (f.2.1.length = 1 ∧ (f.2.1.getD 0 []).length = 0)) → ∀ (d k : Nat) (D1 : Nat → List Int32) (h : mu_T), k + d = 10 → rs g h [2, 3, 32] [1016, 1017] → gI h 1003 2 = 0 → DVR h cur D1 → (udX cur f.2.1 D) = (0, udA cur d k D1) → Vv pp l ee (rmT 4 0 0) ss mm aa bb mt cd 6 q (MQ bb (Qw q (fun v w => v = none ∧ rs g w.2.2 [2, 3, 32] [1016, 1017] ∧ gI w.2.2 1003 2 = (udX cur f.2.1 D).1 ∧ (¬ (udX cur f.2.1 D).1 = 0 → gI w.2.2 1003 3 = gI g 1003 10) ∧ ((udX cur f.2.1 D).1 = 0 → DVR w.2.2 cur (udX cur f.2.1 D).2))) aa ss 0 0 (fun a => q.1 ≤ a)) 130 [some (.ref 1003), some (.int 16), some (.int (nI (na r))), some (.int (nI f.2.1.length)), some (.int (nI k)), none] [] (0, 0, h) := by
    intro hc d
    induction d with
    | zero =>
      intro k D1 h hkd hs he0 hD hU
      have hSh := hs.S hS
      refine v_iload X (dk D_Rf_actOnInput 64 rfl) rfl ?_
      refine v_bipush (v := 10) X (dk D_Rf_actOnInput 65 rfl) (by decide) ?_
      refine v_icmp_ge (tgt := 156) X (dk D_Rf_actOnInput 66 rfl) (by decide) (fun _ => ?_) (fun c134 => absurd (nI_le (a := 10) (by omega) (by omega)) c134)
      exact fin h _ hs he0 hD hc hU
    | succ d ih =>
      intro k D1 h hkd hs he0 hD hU
      have hSh := hs.S hS
      refine v_iload X (dk D_Rf_actOnInput 64 rfl) rfl ?_
      refine v_bipush (v := 10) X (dk D_Rf_actOnInput 65 rfl) (by decide) ?_
      refine v_icmp_ge (tgt := 156) X (dk D_Rf_actOnInput 66 rfl) (by decide) (fun c134 => absurd c134 (nI_ge (b := 10) (by omega) (by decide))) (fun _ => ?_)
      refine v_aload_n X (dk D_Rf_actOnInput 67 rfl) rfl ?_
      refine v_getI X (dk D_Rf_actOnInput 68 rfl) F_Rf_72 rfl rfl (hSh.lt (by decide)) ?_
      refine v_if_ne (tgt := 156) X (dk D_Rf_actOnInput 69 rfl) (by decide) (fun c141 => absurd he0 c141) (fun _ => ?_)
      refine v_aload_n X (dk D_Rf_actOnInput 70 rfl) rfl ?_
      refine v_iload X (dk D_Rf_actOnInput 71 rfl) rfl ?_
      refine v_invV (As := [.int (nI k)]) (st := []) X (r_undivert l q (v0 := (nI k)) hSh hD) (dk D_Rf_actOnInput 72 rfl) G_Rf_325 K_Rf_undivert V_Rf_undivert rfl rfl (hSh.lt (by decide)) rfl rfl (Nat.le_of_ble_eq_true rfl) (Nat.le_of_ble_eq_true rfl) (Nat.le_of_ble_eq_true rfl) (Nat.le_of_ble_eq_true rfl) (Nat.le_of_ble_eq_true rfl) ?_
      rintro v w2 ⟨rfl, a1, a2⟩
      show Vv _ _ _ _ _ _ _ _ _ _ _ _ _ _ _ [] (0, 0, w2.2.2)
      refine v_iinc (v := nI (k + 1)) (lb := [some (.ref 1003), some (.int 16), some (.int (nI (na r))), some (.int (nI f.2.1.length)), some (.int (nI (k + 1))), none]) X (dk D_Rf_actOnInput 73 rfl) rfl (nI_1 _) (by decide) rfl ?_
      refine v_goto (tgt := 130) X (dk D_Rf_actOnInput 74 rfl) (by decide) ?_
      exact ih (k + 1) _ w2.2.2 (by omega) (hs.tr (a1.mono (by simp) (by simp))) ((a1.2 2 (by decide)).trans he0) a2 hU
  by_cases c0 : f.2.1.length = 0
  · refine v_iload_n X (dk D_Rf_actOnInput 0 rfl) rfl ?_
    refine v_bipush (v := 14) X (dk D_Rf_actOnInput 1 rfl) (by decide) ?_
    refine v_icmp_ne (tgt := 51) X (dk D_Rf_actOnInput 2 rfl) (by decide) (fun _ => ?_) (fun c3 => absurd c3 (by decide))
    refine v_iload_n X (dk D_Rf_actOnInput 24 rfl) rfl ?_
    refine v_bipush (v := 15) X (dk D_Rf_actOnInput 25 rfl) (by decide) ?_
    refine v_icmp_ne (tgt := 103) X (dk D_Rf_actOnInput 26 rfl) (by decide) (fun _ => ?_) (fun c54 => absurd c54 (by decide))
    refine v_iload_n X (dk D_Rf_actOnInput 49 rfl) rfl ?_
    refine v_bipush (v := 16) X (dk D_Rf_actOnInput 50 rfl) (by decide) ?_
    refine v_icmp_ne (tgt := 203) X (dk D_Rf_actOnInput 51 rfl) (by decide) (fun c106 => absurd rfl c106) (fun _ => ?_)
    refine v_iload_n X (dk D_Rf_actOnInput 52 rfl) rfl ?_
    refine v_if_eq (tgt := 127) X (dk D_Rf_actOnInput 53 rfl) (by decide) (fun _ => ?_) (fun c110 => absurd (by rw [c0]; rfl) c110)
    refine v_iconst (v := nI 1) X (dk D_Rf_actOnInput 62 rfl) (by decide) ?_
    refine v_istore (lb := [some (.ref 1003), some (.int 16), some (.int (nI (na r))), some (.int (nI f.2.1.length)), some (.int (nI 1)), none]) X (dk D_Rf_actOnInput 63 rfl) (by decide) rfl ?_
    exact lpa (Or.inl c0) 9 1 D g rfl (rs.rf g _ _) he hD (if_pos (Or.inl c0))
  by_cases c1 : f.2.1.length = 1
  · by_cases cz : (f.2.1.getD 0 []).length = 0
    · skip
      refine v_iload_n X (dk D_Rf_actOnInput 0 rfl) rfl ?_
      refine v_bipush (v := 14) X (dk D_Rf_actOnInput 1 rfl) (by decide) ?_
      refine v_icmp_ne (tgt := 51) X (dk D_Rf_actOnInput 2 rfl) (by decide) (fun _ => ?_) (fun c3 => absurd c3 (by decide))
      refine v_iload_n X (dk D_Rf_actOnInput 24 rfl) rfl ?_
      refine v_bipush (v := 15) X (dk D_Rf_actOnInput 25 rfl) (by decide) ?_
      refine v_icmp_ne (tgt := 103) X (dk D_Rf_actOnInput 26 rfl) (by decide) (fun _ => ?_) (fun c54 => absurd c54 (by decide))
      refine v_iload_n X (dk D_Rf_actOnInput 49 rfl) rfl ?_
      refine v_bipush (v := 16) X (dk D_Rf_actOnInput 50 rfl) (by decide) ?_
      refine v_icmp_ne (tgt := 203) X (dk D_Rf_actOnInput 51 rfl) (by decide) (fun c106 => absurd rfl c106) (fun _ => ?_)
      refine v_iload_n X (dk D_Rf_actOnInput 52 rfl) rfl ?_
      refine v_if_eq (tgt := 127) X (dk D_Rf_actOnInput 53 rfl) (by decide) (fun c110 => absurd c110 (nI_ne0 (by omega) (by omega))) (fun _ => ?_)
      refine v_iload_n X (dk D_Rf_actOnInput 54 rfl) rfl ?_
      refine v_iconst (v := 1) X (dk D_Rf_actOnInput 55 rfl) (by decide) ?_
      refine v_icmp_ne (tgt := 156) X (dk D_Rf_actOnInput 56 rfl) (by decide) (fun c115 => absurd (by rw [c1]; rfl) c115) (fun _ => ?_)
      refine v_aload_n X (dk D_Rf_actOnInput 57 rfl) rfl ?_
      refine v_iload_n X (dk D_Rf_actOnInput 58 rfl) rfl ?_
      refine v_iconst (v := nI (0 + 1)) X (dk D_Rf_actOnInput 59 rfl) (by decide) ?_
      refine v_invV (As := [.int (nI (na r)), .int (nI (0 + 1))]) (st := []) X (r_argumentSize l q (i := 0) hS hC (by omega)) (dk D_Rf_actOnInput 60 rfl) G_Rf_272 K_Rf_argumentSize V_Rf_argumentSize rfl rfl (hS.lt (by decide)) rfl rfl (Nat.le_of_ble_eq_true rfl) (Nat.le_of_ble_eq_true rfl) (Nat.le_of_ble_eq_true rfl) (Nat.le_of_ble_eq_true rfl) (Nat.le_of_ble_eq_true rfl) ?_
      rintro v ws ⟨rfl, hws⟩
      rw [hws]
      show Vv _ _ _ _ _ _ _ _ _ _ _ _ _ _ _ [.int (nI (f.2.1.getD 0 []).length)] (0, 0, g)
      refine v_if_ne (tgt := 156) X (dk D_Rf_actOnInput 61 rfl) (by decide) (fun c124 => absurd (by rw [cz]; rfl) c124) (fun _ => ?_)
      refine v_iconst (v := nI 1) X (dk D_Rf_actOnInput 62 rfl) (by decide) ?_
      refine v_istore (lb := [some (.ref 1003), some (.int 16), some (.int (nI (na r))), some (.int (nI f.2.1.length)), some (.int (nI 1)), none]) X (dk D_Rf_actOnInput 63 rfl) (by decide) rfl ?_
      exact lpa (Or.inr ⟨c1, cz⟩) 9 1 D g rfl (rs.rf g _ _) he hD (if_pos (Or.inr ⟨c1, cz⟩))
    · have hcn : ¬ (f.2.1.length = 0 ∨ (f.2.1.length = 1 ∧ (f.2.1.getD 0 []).length = 0)) := fun z => by
        rcases z with z | z
        · exact c0 z
        · exact cz z.2
      refine v_iload_n X (dk D_Rf_actOnInput 0 rfl) rfl ?_
      refine v_bipush (v := 14) X (dk D_Rf_actOnInput 1 rfl) (by decide) ?_
      refine v_icmp_ne (tgt := 51) X (dk D_Rf_actOnInput 2 rfl) (by decide) (fun _ => ?_) (fun c3 => absurd c3 (by decide))
      refine v_iload_n X (dk D_Rf_actOnInput 24 rfl) rfl ?_
      refine v_bipush (v := 15) X (dk D_Rf_actOnInput 25 rfl) (by decide) ?_
      refine v_icmp_ne (tgt := 103) X (dk D_Rf_actOnInput 26 rfl) (by decide) (fun _ => ?_) (fun c54 => absurd c54 (by decide))
      refine v_iload_n X (dk D_Rf_actOnInput 49 rfl) rfl ?_
      refine v_bipush (v := 16) X (dk D_Rf_actOnInput 50 rfl) (by decide) ?_
      refine v_icmp_ne (tgt := 203) X (dk D_Rf_actOnInput 51 rfl) (by decide) (fun c106 => absurd rfl c106) (fun _ => ?_)
      refine v_iload_n X (dk D_Rf_actOnInput 52 rfl) rfl ?_
      refine v_if_eq (tgt := 127) X (dk D_Rf_actOnInput 53 rfl) (by decide) (fun c110 => absurd c110 (nI_ne0 (by omega) (by omega))) (fun _ => ?_)
      refine v_iload_n X (dk D_Rf_actOnInput 54 rfl) rfl ?_
      refine v_iconst (v := 1) X (dk D_Rf_actOnInput 55 rfl) (by decide) ?_
      refine v_icmp_ne (tgt := 156) X (dk D_Rf_actOnInput 56 rfl) (by decide) (fun c115 => absurd (by rw [c1]; rfl) c115) (fun _ => ?_)
      refine v_aload_n X (dk D_Rf_actOnInput 57 rfl) rfl ?_
      refine v_iload_n X (dk D_Rf_actOnInput 58 rfl) rfl ?_
      refine v_iconst (v := nI (0 + 1)) X (dk D_Rf_actOnInput 59 rfl) (by decide) ?_
      refine v_invV (As := [.int (nI (na r)), .int (nI (0 + 1))]) (st := []) X (r_argumentSize l q (i := 0) hS hC (by omega)) (dk D_Rf_actOnInput 60 rfl) G_Rf_272 K_Rf_argumentSize V_Rf_argumentSize rfl rfl (hS.lt (by decide)) rfl rfl (Nat.le_of_ble_eq_true rfl) (Nat.le_of_ble_eq_true rfl) (Nat.le_of_ble_eq_true rfl) (Nat.le_of_ble_eq_true rfl) (Nat.le_of_ble_eq_true rfl) ?_
      rintro v ws ⟨rfl, hws⟩
      rw [hws]
      show Vv _ _ _ _ _ _ _ _ _ _ _ _ _ _ _ [.int (nI (f.2.1.getD 0 []).length)] (0, 0, g)
      refine v_if_ne (tgt := 156) X (dk D_Rf_actOnInput 61 rfl) (by decide) (fun _ => ?_) (fun c124 => absurd c124 (nI_ne0 (by omega) (by omega)))
      refine v_iconst (v := nI (0 + 1)) X (dk D_Rf_actOnInput 75 rfl) (by decide) ?_
      refine v_istore (lb := [some (.ref 1003), some (.int 16), some (.int (nI (na r))), some (.int (nI f.2.1.length)), some (.int (nI (0 + 1))), none]) X (dk D_Rf_actOnInput 76 rfl) (by decide) rfl ?_
      exact loop f.2.1.length D 0 g (rs.rf g _ _) he hD (by omega) rfl (if_neg hcn).symm
  · have hcn : ¬ (f.2.1.length = 0 ∨ (f.2.1.length = 1 ∧ (f.2.1.getD 0 []).length = 0)) := fun z => by
      rcases z with z | z
      · exact c0 z
      · exact c1 z.1
    refine v_iload_n X (dk D_Rf_actOnInput 0 rfl) rfl ?_
    refine v_bipush (v := 14) X (dk D_Rf_actOnInput 1 rfl) (by decide) ?_
    refine v_icmp_ne (tgt := 51) X (dk D_Rf_actOnInput 2 rfl) (by decide) (fun _ => ?_) (fun c3 => absurd c3 (by decide))
    refine v_iload_n X (dk D_Rf_actOnInput 24 rfl) rfl ?_
    refine v_bipush (v := 15) X (dk D_Rf_actOnInput 25 rfl) (by decide) ?_
    refine v_icmp_ne (tgt := 103) X (dk D_Rf_actOnInput 26 rfl) (by decide) (fun _ => ?_) (fun c54 => absurd c54 (by decide))
    refine v_iload_n X (dk D_Rf_actOnInput 49 rfl) rfl ?_
    refine v_bipush (v := 16) X (dk D_Rf_actOnInput 50 rfl) (by decide) ?_
    refine v_icmp_ne (tgt := 203) X (dk D_Rf_actOnInput 51 rfl) (by decide) (fun c106 => absurd rfl c106) (fun _ => ?_)
    refine v_iload_n X (dk D_Rf_actOnInput 52 rfl) rfl ?_
    refine v_if_eq (tgt := 127) X (dk D_Rf_actOnInput 53 rfl) (by decide) (fun c110 => absurd c110 (nI_ne0 (by omega) (by omega))) (fun _ => ?_)
    refine v_iload_n X (dk D_Rf_actOnInput 54 rfl) rfl ?_
    refine v_iconst (v := 1) X (dk D_Rf_actOnInput 55 rfl) (by decide) ?_
    refine v_icmp_ne (tgt := 156) X (dk D_Rf_actOnInput 56 rfl) (by decide) (fun _ => ?_) (fun c115 => absurd c115 (by rw [show (1 : Int32) = nI 1 from rfl, nI_eq (by omega) (by decide)]; omega))
    refine v_iconst (v := nI (0 + 1)) X (dk D_Rf_actOnInput 75 rfl) (by decide) ?_
    refine v_istore (lb := [some (.ref 1003), some (.int 16), some (.int (nI (na r))), some (.int (nI f.2.1.length)), some (.int (nI (0 + 1))), none]) X (dk D_Rf_actOnInput 76 rfl) (by decide) rfl ?_
    exact loop f.2.1.length D 0 g (rs.rf g _ _) he hD (by omega) rfl (if_neg hcn).symm
theorem QT_first {g : mu_T} : QT (xI (xI (xI (xI g 1003 13 1) 1007 0 96) 1003 15 1) 1008 0 39) [96] [39] := by
  refine ⟨(gI_na (by decide)).trans ((gI_nk (by decide)).trans ((gI_na (by decide)).trans (gI_eq _ _ _ _))), (gI_na (by decide)).trans (gI_eq _ _ _ _), by decide, by decide, by decide, by decide, fun j hj => ?_, fun j hj => ?_⟩
  · rw [show j = 0 from by rw [List.length_singleton] at hj; omega]
    exact (gI_na (by decide)).trans ((gI_na (by decide)).trans (gI_eq _ _ _ _))
  · rw [show j = 0 from by rw [List.length_singleton] at hj; omega]
    exact gI_eq _ _ _ _
set_option maxHeartbeats 4000000 in
set_option maxRecDepth 100000 in
theorem r_changeQuotes (l : Launch) (q : ev_T) {f : Fr} {r : List Fr} {g : mu_T} (hS : Shp g) (he : gI g 1003 2 = 0) (hC : AC g f r) : Ctr l q M_Rf_changeQuotes 2 [.ref 1003, .int (nI (na r)), .int (nI f.2.1.length)] (0, 0, g) (fun v w => v = none ∧ rs g w.2.2 [2, 3, 13, 15] [1007, 1008] ∧ (cqX f.2.1 = none → gI w.2.2 1003 2 = 37 ∧ gI w.2.2 1003 3 = gI g 1003 10) ∧ (∀ p, cqX f.2.1 = some p → gI w.2.2 1003 2 = 0 ∧ QT w.2.2 p.1 p.2)) := by
  have hna : na r + f.2.1.length ≤ 8192 := hC.1.2.2.1
  have hle0 := ag_le (f := f) (r := r) 0
  have hle1 := ag_le (f := f) (r := r) 1
  have h16 := hC.1.1.2.2
  refine Ctr.mk (lb := [some (.ref 1003), some (.int (nI (na r))), some (.int (nI f.2.1.length)), none]) (by decide +kernel) (Nat.le_of_ble_eq_true rfl) rfl rfl ?_
  intro pp ee ss mm aa bb mt cd X hrt hlk hnm
  by_cases c0 : f.2.1.length = 0
  · have hq : cqX f.2.1 = some ([96], [39]) := if_pos c0
    refine v_iload_n X (dk D_Rf_changeQuotes 0 rfl) rfl ?_
    refine v_if_ne (tgt := 31) X (dk D_Rf_changeQuotes 1 rfl) (by decide) (fun c1 => absurd (by rw [c0]; rfl) c1) (fun _ => ?_)
    refine v_aload_n X (dk D_Rf_changeQuotes 2 rfl) rfl ?_
    refine v_iconst (v := 1) X (dk D_Rf_changeQuotes 3 rfl) (by decide) ?_
    refine v_putI X (dk D_Rf_changeQuotes 4 rfl) F_Rf_112 CK_Rf rfl rfl (hS.lt (by decide)) rfl rfl ?_
    refine v_aload_n X (dk D_Rf_changeQuotes 5 rfl) rfl ?_
    refine v_getF X (dk D_Rf_changeQuotes 6 rfl) F_Rf_20 rfl rfl (hS.lt (by decide)) (hS.2 1003 12) ?_
    refine v_iconst (v := nI 0) X (dk D_Rf_changeQuotes 7 rfl) (by decide) ?_
    refine v_bipush (v := 96) X (dk D_Rf_changeQuotes 8 rfl) (by decide) ?_
    refine v_iast X (dk D_Rf_changeQuotes 9 rfl) rfl (hS.lt (by decide)) (vp_in_nI (show 0 < 4 by decide) (by decide)) ?_
    refine v_aload_n X (dk D_Rf_changeQuotes 10 rfl) rfl ?_
    refine v_iconst (v := 1) X (dk D_Rf_changeQuotes 11 rfl) (by decide) ?_
    refine v_putI X (dk D_Rf_changeQuotes 12 rfl) F_Rf_119 CK_Rf rfl rfl (hS.lt (by decide)) rfl rfl ?_
    refine v_aload_n X (dk D_Rf_changeQuotes 13 rfl) rfl ?_
    refine v_getF X (dk D_Rf_changeQuotes 14 rfl) F_Rf_24 rfl rfl (hS.lt (by decide)) (hS.2 1003 14) ?_
    refine v_iconst (v := nI 0) X (dk D_Rf_changeQuotes 15 rfl) (by decide) ?_
    refine v_bipush (v := 39) X (dk D_Rf_changeQuotes 16 rfl) (by decide) ?_
    refine v_iast X (dk D_Rf_changeQuotes 17 rfl) rfl (hS.lt (by decide)) (vp_in_nI (show 0 < 4 by decide) (by decide)) ?_
    exact v_vret X hlk hrt (dk D_Rf_changeQuotes 18 rfl) ⟨rfl, ((((rs.rf g _ _).fI (by decide)).rI (by decide) (by decide)).fI (by decide)).rI (by decide) (by decide), fun z => (by rw [hq] at z; cases z), fun p hp => by rw [hq] at hp; cases hp; exact ⟨((gI_na (by decide)).trans ((gI_nk (by decide)).trans ((gI_na (by decide)).trans (gI_nk (by decide))))).trans he, QT_first⟩⟩
  by_cases q0 : ¬ isQt (f.2.1.getD 0 []) = true
  · have hq : cqX f.2.1 = none := by rw [cqX, if_neg c0, if_neg (fun z => q0 z.1)]
    refine v_iload_n X (dk D_Rf_changeQuotes 0 rfl) rfl ?_
    refine v_if_ne (tgt := 31) X (dk D_Rf_changeQuotes 1 rfl) (by decide) (fun _ => ?_) (fun c1 => absurd c1 (nI_ne0 (by omega) (by omega)))
    refine v_aload_n X (dk D_Rf_changeQuotes 19 rfl) rfl ?_
    refine v_iload_n X (dk D_Rf_changeQuotes 20 rfl) rfl ?_
    refine v_iconst (v := nI (0 + 1)) X (dk D_Rf_changeQuotes 21 rfl) (by decide) ?_
    refine v_invV (As := [.int (nI (na r)), .int (nI (0 + 1))]) (st := []) X (r_isQuote l q (i := 0) hS hC (by decide)) (dk D_Rf_changeQuotes 22 rfl) G_Rf_330 K_Rf_isQuote V_Rf_isQuote rfl rfl (hS.lt (by decide)) rfl rfl (Nat.le_of_ble_eq_true rfl) (Nat.le_of_ble_eq_true rfl) (Nat.le_of_ble_eq_true rfl) (Nat.le_of_ble_eq_true rfl) (Nat.le_of_ble_eq_true rfl) ?_
    rintro v ws ⟨rfl, hws⟩
    rw [hws, if_neg q0]
    show Vv _ _ _ _ _ _ _ _ _ _ _ _ _ _ _ [.int 0] (0, 0, g)
    refine v_if_eq (tgt := 49) X (dk D_Rf_changeQuotes 23 rfl) (by decide) (fun _ => ?_) (fun c37 => absurd rfl c37)
    refine v_aload_n X (dk D_Rf_changeQuotes 29 rfl) rfl ?_
    refine v_bipush (v := 37) X (dk D_Rf_changeQuotes 30 rfl) (by decide) ?_
    refine v_invV (As := [.int 37]) (st := []) X (r_fail1 l q (n := 37) hS) (dk D_Rf_changeQuotes 31 rfl) G_Rf_84 K_Rf_fail1 V_Rf_fail1 rfl rfl (hS.lt (by decide)) rfl rfl (Nat.le_of_ble_eq_true rfl) (Nat.le_of_ble_eq_true rfl) (Nat.le_of_ble_eq_true rfl) (Nat.le_of_ble_eq_true rfl) (Nat.le_of_ble_eq_true rfl) ?_
    rintro v w1 ⟨rfl, hw⟩
    rw [hw, if_pos he]
    show Vv _ _ _ _ _ _ _ _ _ _ _ _ _ _ _ [] (0, 0, (xI (xI g 1003 2 37) 1003 3 (gI g 1003 10)))
    exact v_vret X hlk hrt (dk D_Rf_changeQuotes 32 rfl) ⟨rfl, ((rs.rf g _ _).fI (by decide)).fI (by decide), fun _ => ⟨(gI_nk (by decide)).trans (gI_eq _ _ _ _), gI_eq _ _ _ _⟩, fun p hp => by rw [hq] at hp; cases hp⟩
  replace q0 := Decidable.not_not.mp q0
  by_cases q1 : ¬ isQt (f.2.1.getD 1 []) = true
  · have hq : cqX f.2.1 = none := by rw [cqX, if_neg c0, if_neg (fun z => q1 z.2)]
    refine v_iload_n X (dk D_Rf_changeQuotes 0 rfl) rfl ?_
    refine v_if_ne (tgt := 31) X (dk D_Rf_changeQuotes 1 rfl) (by decide) (fun _ => ?_) (fun c1 => absurd c1 (nI_ne0 (by omega) (by omega)))
    refine v_aload_n X (dk D_Rf_changeQuotes 19 rfl) rfl ?_
    refine v_iload_n X (dk D_Rf_changeQuotes 20 rfl) rfl ?_
    refine v_iconst (v := nI (0 + 1)) X (dk D_Rf_changeQuotes 21 rfl) (by decide) ?_
    refine v_invV (As := [.int (nI (na r)), .int (nI (0 + 1))]) (st := []) X (r_isQuote l q (i := 0) hS hC (by decide)) (dk D_Rf_changeQuotes 22 rfl) G_Rf_330 K_Rf_isQuote V_Rf_isQuote rfl rfl (hS.lt (by decide)) rfl rfl (Nat.le_of_ble_eq_true rfl) (Nat.le_of_ble_eq_true rfl) (Nat.le_of_ble_eq_true rfl) (Nat.le_of_ble_eq_true rfl) (Nat.le_of_ble_eq_true rfl) ?_
    rintro v ws ⟨rfl, hws⟩
    rw [hws, if_pos q0]
    show Vv _ _ _ _ _ _ _ _ _ _ _ _ _ _ _ [.int 1] (0, 0, g)
    refine v_if_eq (tgt := 49) X (dk D_Rf_changeQuotes 23 rfl) (by decide) (fun c37 => absurd c37 (by decide)) (fun _ => ?_)
    refine v_aload_n X (dk D_Rf_changeQuotes 24 rfl) rfl ?_
    refine v_iload_n X (dk D_Rf_changeQuotes 25 rfl) rfl ?_
    refine v_iconst (v := nI (1 + 1)) X (dk D_Rf_changeQuotes 26 rfl) (by decide) ?_
    refine v_invV (As := [.int (nI (na r)), .int (nI (1 + 1))]) (st := []) X (r_isQuote l q (i := 1) hS hC (by decide)) (dk D_Rf_changeQuotes 27 rfl) G_Rf_330 K_Rf_isQuote V_Rf_isQuote rfl rfl (hS.lt (by decide)) rfl rfl (Nat.le_of_ble_eq_true rfl) (Nat.le_of_ble_eq_true rfl) (Nat.le_of_ble_eq_true rfl) (Nat.le_of_ble_eq_true rfl) (Nat.le_of_ble_eq_true rfl) ?_
    rintro v ws ⟨rfl, hws⟩
    rw [hws, if_neg q1]
    show Vv _ _ _ _ _ _ _ _ _ _ _ _ _ _ _ [.int 0] (0, 0, g)
    refine v_if_ne (tgt := 56) X (dk D_Rf_changeQuotes 28 rfl) (by decide) (fun c46 => absurd rfl c46) (fun _ => ?_)
    refine v_aload_n X (dk D_Rf_changeQuotes 29 rfl) rfl ?_
    refine v_bipush (v := 37) X (dk D_Rf_changeQuotes 30 rfl) (by decide) ?_
    refine v_invV (As := [.int 37]) (st := []) X (r_fail1 l q (n := 37) hS) (dk D_Rf_changeQuotes 31 rfl) G_Rf_84 K_Rf_fail1 V_Rf_fail1 rfl rfl (hS.lt (by decide)) rfl rfl (Nat.le_of_ble_eq_true rfl) (Nat.le_of_ble_eq_true rfl) (Nat.le_of_ble_eq_true rfl) (Nat.le_of_ble_eq_true rfl) (Nat.le_of_ble_eq_true rfl) ?_
    rintro v w1 ⟨rfl, hw⟩
    rw [hw, if_pos he]
    show Vv _ _ _ _ _ _ _ _ _ _ _ _ _ _ _ [] (0, 0, (xI (xI g 1003 2 37) 1003 3 (gI g 1003 10)))
    exact v_vret X hlk hrt (dk D_Rf_changeQuotes 32 rfl) ⟨rfl, ((rs.rf g _ _).fI (by decide)).fI (by decide), fun _ => ⟨(gI_nk (by decide)).trans (gI_eq _ _ _ _), gI_eq _ _ _ _⟩, fun p hp => by rw [hq] at hp; cases hp⟩
  replace q1 := Decidable.not_not.mp q1
  have hq : cqX f.2.1 = some ((f.2.1.getD 0 []), (f.2.1.getD 1 [])) := by rw [cqX, if_neg c0, if_pos ⟨q0, q1⟩]
  have hl0 := of_decide_eq_true q0
  have hl1 := of_decide_eq_true q1
  have h04 : (f.2.1.getD 0 []).length < 5 := hl0.2.1
  have h14 : (f.2.1.getD 1 []).length < 5 := hl1.2.1
  have zx : rs g (xI g 1003 13 (nI (f.2.1.getD 0 []).length)) [13] [] := (rs.rf g _ _).fI (by decide)
  have lpB : ∀ (d k : Nat) (h : mu_T), k + d = (f.2.1.getD 1 []).length → rs g h [2, 3, 13, 15] [1007, 1008] → gI h 1003 2 = 0 → gI h 1003 13 = nI (f.2.1.getD 0 []).length → gI h 1003 15 = nI (f.2.1.getD 1 []).length → (∀ j, j < (f.2.1.getD 0 []).length → gI h 1007 j = (f.2.1.getD 0 []).getD j 0 &&& 255) → (∀ j, j < k → gI h 1008 j = (f.2.1.getD 1 []).getD j 0 &&& 255) → Vv pp l ee (rmT 2 0 0) ss mm aa bb mt cd 4 q (MQ bb (Qw q (fun v w => v = none ∧ rs g w.2.2 [2, 3, 13, 15] [1007, 1008] ∧ (cqX f.2.1 = none → gI w.2.2 1003 2 = 37 ∧ gI w.2.2 1003 3 = gI g 1003 10) ∧ (∀ p, cqX f.2.1 = some p → gI w.2.2 1003 2 = 0 ∧ QT w.2.2 p.1 p.2))) aa ss 0 0 (fun a => q.1 ≤ a)) 117 [some (.ref 1003), some (.int (nI (na r))), some (.int (nI f.2.1.length)), some (.int (nI k))] [] (0, 0, h) := by
    intro d
    induction d with
    | zero =>
      intro k h hkd hs he0 h13 h15 hA hk
      have hSh := hs.S hS
      have hCh := hC.rs hs (by decide) (by decide) (by decide)
      refine v_iload_n X (dk D_Rf_changeQuotes 70 rfl) rfl ?_
      refine v_aload_n X (dk D_Rf_changeQuotes 71 rfl) rfl ?_
      refine v_getI X (dk D_Rf_changeQuotes 72 rfl) F_Rf_119 rfl rfl (hSh.lt (by decide)) ?_
      refine v_icmp_ge (tgt := 154) X (dk D_Rf_changeQuotes 73 rfl) (by decide) (fun _ => ?_) (fun c122 => absurd (by rw [h15]; exact nI_le (by omega) (by omega)) c122)
      exact v_vret X hlk hrt (dk D_Rf_changeQuotes 91 rfl) ⟨rfl, hs, fun z => (by rw [hq] at z; cases z), fun p hp => by rw [hq] at hp; cases hp; exact ⟨he0, h13, h15, hl0.1, Nat.le_of_lt_succ h04, hl1.1, Nat.le_of_lt_succ h14, hA, fun j hj => hk j (by have hj2 : j < (f.2.1.getD 1 []).length := hj; omega)⟩⟩
    | succ d ih =>
      intro k h hkd hs he0 h13 h15 hA hk
      have hSh := hs.S hS
      have hCh := hC.rs hs (by decide) (by decide) (by decide)
      refine v_iload_n X (dk D_Rf_changeQuotes 70 rfl) rfl ?_
      refine v_aload_n X (dk D_Rf_changeQuotes 71 rfl) rfl ?_
      refine v_getI X (dk D_Rf_changeQuotes 72 rfl) F_Rf_119 rfl rfl (hSh.lt (by decide)) ?_
      refine v_icmp_ge (tgt := 154) X (dk D_Rf_changeQuotes 73 rfl) (by decide) (fun c122 => absurd c122 (by rw [h15]; exact nI_ge (by omega) (by omega))) (fun _ => ?_)
      refine v_aload_n X (dk D_Rf_changeQuotes 74 rfl) rfl ?_
      refine v_getF X (dk D_Rf_changeQuotes 75 rfl) F_Rf_24 rfl rfl (hSh.lt (by decide)) (hSh.2 1003 14) ?_
      refine v_iload_n X (dk D_Rf_changeQuotes 76 rfl) rfl ?_
      refine v_aload_n X (dk D_Rf_changeQuotes 77 rfl) rfl ?_
      refine v_getF X (dk D_Rf_changeQuotes 78 rfl) F_Rf_56 rfl rfl (hSh.lt (by decide)) (hSh.2 1003 35) ?_
      refine v_aload_n X (dk D_Rf_changeQuotes 79 rfl) rfl ?_
      refine v_iload_n X (dk D_Rf_changeQuotes 80 rfl) rfl ?_
      refine v_iconst (v := nI (1 + 1)) X (dk D_Rf_changeQuotes 81 rfl) (by decide) ?_
      refine v_invV (As := [.int (nI (na r)), .int (nI (1 + 1))]) (st := [.ref 1018, .int (nI k), .ref 1008]) X (r_argumentAt l q (i := 1) hSh hCh (by omega)) (dk D_Rf_changeQuotes 82 rfl) G_Rf_268 K_Rf_argumentAt V_Rf_argumentAt rfl rfl (hSh.lt (by decide)) rfl rfl (Nat.le_of_ble_eq_true rfl) (Nat.le_of_ble_eq_true rfl) (Nat.le_of_ble_eq_true rfl) (Nat.le_of_ble_eq_true rfl) (Nat.le_of_ble_eq_true rfl) ?_
      rintro v ws ⟨rfl, hws⟩
      rw [hws]
      show Vv _ _ _ _ _ _ _ _ _ _ _ _ _ _ _ [.int (nI (stA f r 1)), .ref 1018, .int (nI k), .ref 1008] (0, 0, h)
      refine v_iload_n X (dk D_Rf_changeQuotes 83 rfl) rfl ?_
      refine v_iadd X (dk D_Rf_changeQuotes 84 rfl) ?_
      rw [nI_add]
      refine v_bald X (dk D_Rf_changeQuotes 85 rfl) rfl (hSh.lt (by decide)) (vp_in_nI (show stA f r 1 + k < 16385 by omega) (by decide)) ?_
      rw [nI_clamp (by omega), hCh.1.1.arg 1 k (by omega)]
      refine v_sipush (v := 255) X (dk D_Rf_changeQuotes 86 rfl) (by decide) ?_
      refine v_iand X (dk D_Rf_changeQuotes 87 rfl) ?_
      refine v_iast X (dk D_Rf_changeQuotes 88 rfl) rfl (hSh.lt (by decide)) (vp_in_nI (show k < 4 by omega) (by decide)) ?_
      rw [nI_clamp (by omega)]
      refine v_iinc (v := nI (k + 1)) (lb := [some (.ref 1003), some (.int (nI (na r))), some (.int (nI f.2.1.length)), some (.int (nI (k + 1)))]) X (dk D_Rf_changeQuotes 89 rfl) rfl (nI_1 _) (by decide) rfl ?_
      refine v_goto (tgt := 117) X (dk D_Rf_changeQuotes 90 rfl) (by decide) ?_
      exact ih (k + 1) _ (by omega) (hs.rI (by decide) (by decide)) ((gI_na (by decide)).trans he0) ((gI_na (by decide)).trans h13) ((gI_na (by decide)).trans h15) (fun j hj => (gI_na (by decide)).trans (hA j hj)) (fun j hj => by by_cases c : j = k; (rw [c]; exact gI_eq _ _ _ _); (rw [gI_nk c]; exact hk j (by omega)))
  have lpA : ∀ (d k : Nat) (h : mu_T), k + d = (f.2.1.getD 0 []).length → rs g h [2, 3, 13, 15] [1007, 1008] → gI h 1003 2 = 0 → gI h 1003 13 = nI (f.2.1.getD 0 []).length → gI h 1003 15 = nI (f.2.1.getD 1 []).length → (∀ j, j < k → gI h 1007 j = (f.2.1.getD 0 []).getD j 0 &&& 255) → Vv pp l ee (rmT 2 0 0) ss mm aa bb mt cd 4 q (MQ bb (Qw q (fun v w => v = none ∧ rs g w.2.2 [2, 3, 13, 15] [1007, 1008] ∧ (cqX f.2.1 = none → gI w.2.2 1003 2 = 37 ∧ gI w.2.2 1003 3 = gI g 1003 10) ∧ (∀ p, cqX f.2.1 = some p → gI w.2.2 1003 2 = 0 ∧ QT w.2.2 p.1 p.2))) aa ss 0 0 (fun a => q.1 ≤ a)) 78 [some (.ref 1003), some (.int (nI (na r))), some (.int (nI f.2.1.length)), some (.int (nI k))] [] (0, 0, h) := by
    intro d
    induction d with
    | zero =>
      intro k h hkd hs he0 h13 h15 hk
      have hSh := hs.S hS
      have hCh := hC.rs hs (by decide) (by decide) (by decide)
      refine v_iload_n X (dk D_Rf_changeQuotes 47 rfl) rfl ?_
      refine v_aload_n X (dk D_Rf_changeQuotes 48 rfl) rfl ?_
      refine v_getI X (dk D_Rf_changeQuotes 49 rfl) F_Rf_112 rfl rfl (hSh.lt (by decide)) ?_
      refine v_icmp_ge (tgt := 115) X (dk D_Rf_changeQuotes 50 rfl) (by decide) (fun _ => ?_) (fun c83 => absurd (by rw [h13]; exact nI_le (by omega) (by omega)) c83)
      refine v_iconst (v := nI 0) X (dk D_Rf_changeQuotes 68 rfl) (by decide) ?_
      refine v_istore_n (lb := [some (.ref 1003), some (.int (nI (na r))), some (.int (nI f.2.1.length)), some (.int (nI 0))]) X (dk D_Rf_changeQuotes 69 rfl) (by decide) rfl ?_
      exact lpB (f.2.1.getD 1 []).length 0 h (by omega) hs he0 h13 h15 (fun j hj => hk j (by omega)) (fun j hj => by omega)
    | succ d ih =>
      intro k h hkd hs he0 h13 h15 hk
      have hSh := hs.S hS
      have hCh := hC.rs hs (by decide) (by decide) (by decide)
      refine v_iload_n X (dk D_Rf_changeQuotes 47 rfl) rfl ?_
      refine v_aload_n X (dk D_Rf_changeQuotes 48 rfl) rfl ?_
      refine v_getI X (dk D_Rf_changeQuotes 49 rfl) F_Rf_112 rfl rfl (hSh.lt (by decide)) ?_
      refine v_icmp_ge (tgt := 115) X (dk D_Rf_changeQuotes 50 rfl) (by decide) (fun c83 => absurd c83 (by rw [h13]; exact nI_ge (by omega) (by omega))) (fun _ => ?_)
      refine v_aload_n X (dk D_Rf_changeQuotes 51 rfl) rfl ?_
      refine v_getF X (dk D_Rf_changeQuotes 52 rfl) F_Rf_20 rfl rfl (hSh.lt (by decide)) (hSh.2 1003 12) ?_
      refine v_iload_n X (dk D_Rf_changeQuotes 53 rfl) rfl ?_
      refine v_aload_n X (dk D_Rf_changeQuotes 54 rfl) rfl ?_
      refine v_getF X (dk D_Rf_changeQuotes 55 rfl) F_Rf_56 rfl rfl (hSh.lt (by decide)) (hSh.2 1003 35) ?_
      refine v_aload_n X (dk D_Rf_changeQuotes 56 rfl) rfl ?_
      refine v_iload_n X (dk D_Rf_changeQuotes 57 rfl) rfl ?_
      refine v_iconst (v := nI (0 + 1)) X (dk D_Rf_changeQuotes 58 rfl) (by decide) ?_
      refine v_invV (As := [.int (nI (na r)), .int (nI (0 + 1))]) (st := [.ref 1018, .int (nI k), .ref 1007]) X (r_argumentAt l q (i := 0) hSh hCh (by omega)) (dk D_Rf_changeQuotes 59 rfl) G_Rf_268 K_Rf_argumentAt V_Rf_argumentAt rfl rfl (hSh.lt (by decide)) rfl rfl (Nat.le_of_ble_eq_true rfl) (Nat.le_of_ble_eq_true rfl) (Nat.le_of_ble_eq_true rfl) (Nat.le_of_ble_eq_true rfl) (Nat.le_of_ble_eq_true rfl) ?_
      rintro v ws ⟨rfl, hws⟩
      rw [hws]
      show Vv _ _ _ _ _ _ _ _ _ _ _ _ _ _ _ [.int (nI (stA f r 0)), .ref 1018, .int (nI k), .ref 1007] (0, 0, h)
      refine v_iload_n X (dk D_Rf_changeQuotes 60 rfl) rfl ?_
      refine v_iadd X (dk D_Rf_changeQuotes 61 rfl) ?_
      rw [nI_add]
      refine v_bald X (dk D_Rf_changeQuotes 62 rfl) rfl (hSh.lt (by decide)) (vp_in_nI (show stA f r 0 + k < 16385 by omega) (by decide)) ?_
      rw [nI_clamp (by omega), hCh.1.1.arg 0 k (by omega)]
      refine v_sipush (v := 255) X (dk D_Rf_changeQuotes 63 rfl) (by decide) ?_
      refine v_iand X (dk D_Rf_changeQuotes 64 rfl) ?_
      refine v_iast X (dk D_Rf_changeQuotes 65 rfl) rfl (hSh.lt (by decide)) (vp_in_nI (show k < 4 by omega) (by decide)) ?_
      rw [nI_clamp (by omega)]
      refine v_iinc (v := nI (k + 1)) (lb := [some (.ref 1003), some (.int (nI (na r))), some (.int (nI f.2.1.length)), some (.int (nI (k + 1)))]) X (dk D_Rf_changeQuotes 66 rfl) rfl (nI_1 _) (by decide) rfl ?_
      refine v_goto (tgt := 78) X (dk D_Rf_changeQuotes 67 rfl) (by decide) ?_
      exact ih (k + 1) _ (by omega) (hs.rI (by decide) (by decide)) ((gI_na (by decide)).trans he0) ((gI_na (by decide)).trans h13) ((gI_na (by decide)).trans h15) (fun j hj => by by_cases c : j = k; (rw [c]; exact gI_eq _ _ _ _); (rw [gI_nk c]; exact hk j (by omega)))
  refine v_iload_n X (dk D_Rf_changeQuotes 0 rfl) rfl ?_
  refine v_if_ne (tgt := 31) X (dk D_Rf_changeQuotes 1 rfl) (by decide) (fun _ => ?_) (fun c1 => absurd c1 (nI_ne0 (by omega) (by omega)))
  refine v_aload_n X (dk D_Rf_changeQuotes 19 rfl) rfl ?_
  refine v_iload_n X (dk D_Rf_changeQuotes 20 rfl) rfl ?_
  refine v_iconst (v := nI (0 + 1)) X (dk D_Rf_changeQuotes 21 rfl) (by decide) ?_
  refine v_invV (As := [.int (nI (na r)), .int (nI (0 + 1))]) (st := []) X (r_isQuote l q (i := 0) hS hC (by decide)) (dk D_Rf_changeQuotes 22 rfl) G_Rf_330 K_Rf_isQuote V_Rf_isQuote rfl rfl (hS.lt (by decide)) rfl rfl (Nat.le_of_ble_eq_true rfl) (Nat.le_of_ble_eq_true rfl) (Nat.le_of_ble_eq_true rfl) (Nat.le_of_ble_eq_true rfl) (Nat.le_of_ble_eq_true rfl) ?_
  rintro v ws ⟨rfl, hws⟩
  rw [hws, if_pos q0]
  show Vv _ _ _ _ _ _ _ _ _ _ _ _ _ _ _ [.int 1] (0, 0, g)
  refine v_if_eq (tgt := 49) X (dk D_Rf_changeQuotes 23 rfl) (by decide) (fun c37 => absurd c37 (by decide)) (fun _ => ?_)
  refine v_aload_n X (dk D_Rf_changeQuotes 24 rfl) rfl ?_
  refine v_iload_n X (dk D_Rf_changeQuotes 25 rfl) rfl ?_
  refine v_iconst (v := nI (1 + 1)) X (dk D_Rf_changeQuotes 26 rfl) (by decide) ?_
  refine v_invV (As := [.int (nI (na r)), .int (nI (1 + 1))]) (st := []) X (r_isQuote l q (i := 1) hS hC (by decide)) (dk D_Rf_changeQuotes 27 rfl) G_Rf_330 K_Rf_isQuote V_Rf_isQuote rfl rfl (hS.lt (by decide)) rfl rfl (Nat.le_of_ble_eq_true rfl) (Nat.le_of_ble_eq_true rfl) (Nat.le_of_ble_eq_true rfl) (Nat.le_of_ble_eq_true rfl) (Nat.le_of_ble_eq_true rfl) ?_
  rintro v ws ⟨rfl, hws⟩
  rw [hws, if_pos q1]
  show Vv _ _ _ _ _ _ _ _ _ _ _ _ _ _ _ [.int 1] (0, 0, g)
  refine v_if_ne (tgt := 56) X (dk D_Rf_changeQuotes 28 rfl) (by decide) (fun _ => ?_) (fun c46 => absurd c46 (by decide))
  refine v_aload_n X (dk D_Rf_changeQuotes 33 rfl) rfl ?_
  refine v_aload_n X (dk D_Rf_changeQuotes 34 rfl) rfl ?_
  refine v_iload_n X (dk D_Rf_changeQuotes 35 rfl) rfl ?_
  refine v_iconst (v := nI (0 + 1)) X (dk D_Rf_changeQuotes 36 rfl) (by decide) ?_
  refine v_invV (As := [.int (nI (na r)), .int (nI (0 + 1))]) (st := [.ref 1003]) X (r_argumentSize l q (i := 0) hS hC (by omega)) (dk D_Rf_changeQuotes 37 rfl) G_Rf_272 K_Rf_argumentSize V_Rf_argumentSize rfl rfl (hS.lt (by decide)) rfl rfl (Nat.le_of_ble_eq_true rfl) (Nat.le_of_ble_eq_true rfl) (Nat.le_of_ble_eq_true rfl) (Nat.le_of_ble_eq_true rfl) (Nat.le_of_ble_eq_true rfl) ?_
  rintro v ws ⟨rfl, hws⟩
  rw [hws]
  show Vv _ _ _ _ _ _ _ _ _ _ _ _ _ _ _ [.int (nI (f.2.1.getD 0 []).length), .ref 1003] (0, 0, g)
  refine v_putI X (dk D_Rf_changeQuotes 38 rfl) F_Rf_112 CK_Rf rfl rfl (hS.lt (by decide)) rfl rfl ?_
  refine v_aload_n X (dk D_Rf_changeQuotes 39 rfl) rfl ?_
  refine v_aload_n X (dk D_Rf_changeQuotes 40 rfl) rfl ?_
  refine v_iload_n X (dk D_Rf_changeQuotes 41 rfl) rfl ?_
  refine v_iconst (v := nI (1 + 1)) X (dk D_Rf_changeQuotes 42 rfl) (by decide) ?_
  refine v_invV (As := [.int (nI (na r)), .int (nI (1 + 1))]) (st := [.ref 1003]) X (r_argumentSize l q (i := 1) (zx.S hS) (hC.rs zx (by decide) (by decide) (by decide)) (by omega)) (dk D_Rf_changeQuotes 43 rfl) G_Rf_272 K_Rf_argumentSize V_Rf_argumentSize rfl rfl ((zx.S hS).lt (by decide)) rfl rfl (Nat.le_of_ble_eq_true rfl) (Nat.le_of_ble_eq_true rfl) (Nat.le_of_ble_eq_true rfl) (Nat.le_of_ble_eq_true rfl) (Nat.le_of_ble_eq_true rfl) ?_
  rintro v ws ⟨rfl, hws⟩
  rw [hws]
  show Vv _ _ _ _ _ _ _ _ _ _ _ _ _ _ _ [.int (nI (f.2.1.getD 1 []).length), .ref 1003] (0, 0, (xI g 1003 13 (nI (f.2.1.getD 0 []).length)))
  refine v_putI X (dk D_Rf_changeQuotes 44 rfl) F_Rf_119 CK_Rf rfl rfl (hS.lt (by decide)) rfl rfl ?_
  refine v_iconst (v := nI 0) X (dk D_Rf_changeQuotes 45 rfl) (by decide) ?_
  refine v_istore_n (lb := [some (.ref 1003), some (.int (nI (na r))), some (.int (nI f.2.1.length)), some (.int (nI 0))]) X (dk D_Rf_changeQuotes 46 rfl) (by decide) rfl ?_
  exact lpA (f.2.1.getD 0 []).length 0 _ (by omega) (((rs.rf g _ _).fI (by decide)).fI (by decide)) ((gI_nk (by decide)).trans ((gI_nk (by decide)).trans he)) ((gI_nk (by decide)).trans (gI_eq _ _ _ _)) (gI_eq _ _ _ _) (fun j hj => by omega)
set_option maxHeartbeats 4000000 in
set_option maxRecDepth 100000 in
theorem r_actQuotes (l : Launch) (q : ev_T) {f : Fr} {r : List Fr} {g : mu_T} (hS : Shp g) (he : gI g 1003 2 = 0) (hC : AC g f r) : Ctr l q M_Rf_actOnInput 3 [.ref 1003, .int 17, .int (nI (na r)), .int (nI f.2.1.length)] (0, 0, g) (fun v w => v = none ∧ rs g w.2.2 [2, 3, 13, 15] [1007, 1008] ∧ (cqX f.2.1 = none → gI w.2.2 1003 2 = 37 ∧ gI w.2.2 1003 3 = gI g 1003 10) ∧ (∀ p, cqX f.2.1 = some p → gI w.2.2 1003 2 = 0 ∧ QT w.2.2 p.1 p.2)) := by

  refine Ctr.mk (lb := [some (.ref 1003), some (.int 17), some (.int (nI (na r))), some (.int (nI f.2.1.length)), none, none]) (by decide +kernel) (Nat.le_of_ble_eq_true rfl) rfl rfl ?_
  intro pp ee ss mm aa bb mt cd X hrt hlk hnm
  refine v_iload_n X (dk D_Rf_actOnInput 0 rfl) rfl ?_
  refine v_bipush (v := 14) X (dk D_Rf_actOnInput 1 rfl) (by decide) ?_
  refine v_icmp_ne (tgt := 51) X (dk D_Rf_actOnInput 2 rfl) (by decide) (fun _ => ?_) (fun c3 => absurd c3 (by decide))
  refine v_iload_n X (dk D_Rf_actOnInput 24 rfl) rfl ?_
  refine v_bipush (v := 15) X (dk D_Rf_actOnInput 25 rfl) (by decide) ?_
  refine v_icmp_ne (tgt := 103) X (dk D_Rf_actOnInput 26 rfl) (by decide) (fun _ => ?_) (fun c54 => absurd c54 (by decide))
  refine v_iload_n X (dk D_Rf_actOnInput 49 rfl) rfl ?_
  refine v_bipush (v := 16) X (dk D_Rf_actOnInput 50 rfl) (by decide) ?_
  refine v_icmp_ne (tgt := 203) X (dk D_Rf_actOnInput 51 rfl) (by decide) (fun _ => ?_) (fun c106 => absurd c106 (by decide))
  refine v_aload_n X (dk D_Rf_actOnInput 97 rfl) rfl ?_
  refine v_iload_n X (dk D_Rf_actOnInput 98 rfl) rfl ?_
  refine v_iload_n X (dk D_Rf_actOnInput 99 rfl) rfl ?_
  refine v_invV (As := [.int (nI (na r)), .int (nI f.2.1.length)]) (st := []) X (r_changeQuotes l q hS he hC) (dk D_Rf_actOnInput 100 rfl) G_Rf_327 K_Rf_changeQuotes V_Rf_changeQuotes rfl rfl (hS.lt (by decide)) rfl rfl (Nat.le_of_ble_eq_true rfl) (Nat.le_of_ble_eq_true rfl) (Nat.le_of_ble_eq_true rfl) (Nat.le_of_ble_eq_true rfl) (Nat.le_of_ble_eq_true rfl) ?_
  rintro v w1 ⟨rfl, a1, a2, a3⟩
  show Vv _ _ _ _ _ _ _ _ _ _ _ _ _ _ _ [] (0, 0, w1.2.2)
  exact v_vret X hlk hrt (dk D_Rf_actOnInput 101 rfl) ⟨rfl, a1, a2, a3⟩
