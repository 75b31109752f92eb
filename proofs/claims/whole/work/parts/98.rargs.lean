/-! the reference: arguments -/
def AG (g : mu_T) (xs : List Int32) : Prop := gI g 1003 36 = nI xs.length ∧ rwA g 1018 0 xs ∧ xs.length ≤ 16384
theorem AG.rs {g w : mu_T} {K U : List Nat} {xs : List Int32} (h : AG g xs) (z : rs g w K U) (hK : 36 ∉ K) (hU : 1018 ∉ U) : AG w xs := ⟨by rw [z.2 36 hK]; exact h.1, fun j hj => by rw [z.row hU (by decide)]; exact h.2.1 j hj, h.2.2⟩
theorem AG_put {g : mu_T} {xs : List Int32} {x : Int32} (h : AG g xs) (hl : xs.length < 16384) : AG (xI (xI g 1018 xs.length x) 1003 36 (nI (xs.length + 1))) (xs ++ [x]) := by
  refine ⟨by rw [gI_eq, List.length_append]; rfl, fun j hj => ?_, by rw [List.length_append, List.length_singleton]; omega⟩
  rw [gI_na (by decide)]
  have := rwA_snoc (x := x) h.2.1
  rw [Nat.zero_add] at this
  exact this j hj
/-- where the arguments of the open calls begin -/
def stS (g : mu_T) : List Fr → Prop
  | [] => True
  | f :: r => (∀ j, j < f.2.1.length → gI g 1019 (na r + j) = nI (stA f r j)) ∧ stS g r
theorem stS_of {g w : mu_T} : ∀ {fs : List Fr}, stS g fs → (∀ j, j < na fs → gI w 1019 j = gI g 1019 j) → stS w fs
  | [], _, _ => trivial
  | f :: r, ⟨a, b⟩, h => ⟨fun j hj => (h _ (by rw [na]; omega)).trans (a j hj), stS_of b (fun j hj => h j (by rw [na]; omega))⟩
def AR (g : mu_T) (fs : List Fr) : Prop := AG g (hl fs) ∧ gI g 1003 37 = nI (na fs) ∧ na fs ≤ 8192 ∧ gI g 1003 34 = nI fs.length ∧ fs.length ≤ 50 ∧ stS g fs
theorem AR.rs {g w : mu_T} {K U : List Nat} {fs : List Fr} (h : AR g fs) (z : rs g w K U) (hK : ∀ k ∈ [34, 36, 37], k ∉ K) (h1 : 1018 ∉ U) (h2 : 1019 ∉ U) : AR w fs := ⟨h.1.rs z (hK 36 (by decide)) h1, by rw [z.2 37 (hK 37 (by decide))]; exact h.2.1, h.2.2.1, by rw [z.2 34 (hK 34 (by decide))]; exact h.2.2.2.1, h.2.2.2.2.1, stS_of h.2.2.2.2.2 (fun j _ => z.row h2 (by decide) j)⟩
/-- the innermost call is complete -/
def AC (g : mu_T) (f : Fr) (r : List Fr) : Prop := AR g (f :: r) ∧ gI g 1019 (na (f :: r)) = nI (hl (f :: r)).length
theorem AC.rs {g w : mu_T} {K U : List Nat} {f : Fr} {r : List Fr} (h : AC g f r) (z : rs g w K U) (hK : ∀ k ∈ [34, 36, 37], k ∉ K) (h1 : 1018 ∉ U) (h2 : 1019 ∉ U) : AC w f r := ⟨h.1.rs z hK h1 h2, by rw [z.row h2 (by decide)]; exact h.2⟩
theorem rwA_slice {g : mu_T} {r a n : Nat} {xs : List Int32} (h : rwA g r 0 xs) (hn : a + n ≤ xs.length) : rwA g r a ((xs.drop a).take n) := fun j hj => by
  rw [List.length_take, List.length_drop] at hj
  have := h (a + j) (by omega)
  rw [Nat.zero_add] at this
  rw [this, List.getD_eq_getElem?_getD, List.getD_eq_getElem?_getD, List.getElem?_take, if_pos (by omega), List.getElem?_drop]
theorem AG.arg {g : mu_T} {f : Fr} {r : List Fr} (h : AG g (hl (f :: r))) (i : Nat) : rwA g 1018 (stA f r i) (f.2.1.getD i []) := by
  have := rwA_slice h.2.1 (ag_le (f := f) (r := r) i)
  rw [hl_slice] at this
  exact this
theorem AG.nam {g : mu_T} {f : Fr} {r : List Fr} (h : AG g (hl (f :: r))) : rwA g 1018 (hl r).length f.1 := by
  have h1 := h.2.1
  rw [hl] at h1
  have h2 := (rwA_app.mp (rwA_app.mp h1).2).1
  rw [Nat.zero_add] at h2
  exact h2
set_option maxHeartbeats 4000000 in
set_option maxRecDepth 100000 in
theorem r_putArgumentF (l : Launch) (q : ev_T) {x : Int32} {xs : List Int32} {g : mu_T} (hS : Shp g) (hA : AG g xs) (he : gI g 1003 2 = 0) (hf : xs.length = 16384) : Ctr l q M_Rf_putArgument 2 [.ref 1003, .int x] (0, 0, g) (fun v w => v = none ∧ w.2.2 = xI (xI g 1003 2 40) 1003 3 (gI g 1003 10)) := by

  refine Ctr.mk (lb := [some (.ref 1003), some (.int x)]) (by decide +kernel) (Nat.le_of_ble_eq_true rfl) rfl rfl ?_
  intro pp ee ss mm aa bb mt cd X hrt hlk hnm
  refine v_aload_n X (dk D_Rf_putArgument 0 rfl) rfl ?_
  refine v_getI X (dk D_Rf_putArgument 1 rfl) F_Rf_226 rfl rfl (hS.lt (by decide)) ?_
  refine v_sipush (v := 16384) X (dk D_Rf_putArgument 2 rfl) (by decide) ?_
  refine v_icmp_ne (tgt := 17) X (dk D_Rf_putArgument 3 rfl) (by decide) (fun c7 => absurd (by rw [hA.1, hf]; rfl) c7) (fun _ => ?_)
  refine v_aload_n X (dk D_Rf_putArgument 4 rfl) rfl ?_
  refine v_bipush (v := 40) X (dk D_Rf_putArgument 5 rfl) (by decide) ?_
  refine v_invV (As := [.int 40]) (st := []) X (r_fail1 l q (n := 40) hS) (dk D_Rf_putArgument 6 rfl) G_Rf_84 K_Rf_fail1 V_Rf_fail1 rfl rfl (hS.lt (by decide)) rfl rfl (Nat.le_of_ble_eq_true rfl) (Nat.le_of_ble_eq_true rfl) (Nat.le_of_ble_eq_true rfl) (Nat.le_of_ble_eq_true rfl) (Nat.le_of_ble_eq_true rfl) ?_
  rintro v w1 ⟨rfl, hw⟩
  rw [hw, if_pos he]
  show Vv _ _ _ _ _ _ _ _ _ _ _ _ _ _ _ [] (0, 0, xI (xI g 1003 2 40) 1003 3 (gI g 1003 10))
  exact v_vret X hlk hrt (dk D_Rf_putArgument 7 rfl) ⟨rfl, rfl⟩
set_option maxHeartbeats 4000000 in
set_option maxRecDepth 100000 in
theorem r_putArgument (l : Launch) (q : ev_T) {x : Int32} {xs : List Int32} {g : mu_T} (hS : Shp g) (hA : AG g xs) (hf : xs.length < 16384) : Ctr l q M_Rf_putArgument 2 [.ref 1003, .int x] (0, 0, g) (fun v w => v = none ∧ rs g w.2.2 [36] [1018] ∧ AG w.2.2 (xs ++ [x.toInt8.toInt32])) := by

  refine Ctr.mk (lb := [some (.ref 1003), some (.int x)]) (by decide +kernel) (Nat.le_of_ble_eq_true rfl) rfl rfl ?_
  intro pp ee ss mm aa bb mt cd X hrt hlk hnm
  refine v_aload_n X (dk D_Rf_putArgument 0 rfl) rfl ?_
  refine v_getI X (dk D_Rf_putArgument 1 rfl) F_Rf_226 rfl rfl (hS.lt (by decide)) ?_
  refine v_sipush (v := 16384) X (dk D_Rf_putArgument 2 rfl) (by decide) ?_
  refine v_icmp_ne (tgt := 17) X (dk D_Rf_putArgument 3 rfl) (by decide) (fun _ => ?_) (fun c7 => absurd c7 (by rw [hA.1, show (16384 : Int32) = nI 16384 from rfl, nI_eq (by omega) (by decide)]; omega))
  refine v_aload_n X (dk D_Rf_putArgument 8 rfl) rfl ?_
  refine v_getF X (dk D_Rf_putArgument 9 rfl) F_Rf_56 rfl rfl (hS.lt (by decide)) (hS.2 1003 35) ?_
  refine v_aload_n X (dk D_Rf_putArgument 10 rfl) rfl ?_
  refine v_getI X (dk D_Rf_putArgument 11 rfl) F_Rf_226 rfl rfl (hS.lt (by decide)) ?_
  refine v_iload_n X (dk D_Rf_putArgument 12 rfl) rfl ?_
  refine v_i2b X (dk D_Rf_putArgument 13 rfl) rfl ?_
  refine v_bast X (dk D_Rf_putArgument 14 rfl) rfl (hS.lt (by decide)) (by rw [hA.1]; exact vp_in_nI (show xs.length < 16385 by omega) (by decide)) rfl ?_
  rw [hA.1, nI_clamp (by omega), Int8.toInt8_toInt32]
  refine v_aload_n X (dk D_Rf_putArgument 15 rfl) rfl ?_
  refine v_dup X (dk D_Rf_putArgument 16 rfl) rfl ?_
  refine v_getI X (dk D_Rf_putArgument 17 rfl) F_Rf_226 rfl rfl (hS.lt (by decide)) ?_
  rw [show gI (xI g 1018 xs.length x.toInt8.toInt32) 1003 36 = nI xs.length from (gI_na (by decide)).trans hA.1]
  refine v_iconst (v := 1) X (dk D_Rf_putArgument 18 rfl) (by decide) ?_
  refine v_iadd X (dk D_Rf_putArgument 19 rfl) ?_
  rw [nI_1]
  refine v_putI X (dk D_Rf_putArgument 20 rfl) F_Rf_226 CK_Rf rfl rfl (hS.lt (by decide)) rfl rfl ?_
  exact v_vret X hlk hrt (dk D_Rf_putArgument 21 rfl) ⟨rfl, ((rs.rf g _ _).rI (by decide) (by decide)).fI (by decide), AG_put hA hf⟩
set_option maxHeartbeats 4000000 in
set_option maxRecDepth 100000 in
theorem r_putTokenA (l : Launch) (q : ev_T) {xs tk : List Int32} {g : mu_T} (hS : Shp g) (hA : AG g xs) (hT : TK g tk) (he : gI g 1003 2 = 0) : Ctr l q M_Rf_putToken 3 [.ref 1003, .int 1] (0, 0, g) (fun v w => v = none ∧ rs g w.2.2 [2, 3, 36] [1018] ∧ (xs.length + tk.length ≤ 16384 → gI w.2.2 1003 2 = 0 ∧ AG w.2.2 (xs ++ tk)) ∧ (¬ xs.length + tk.length ≤ 16384 → gI w.2.2 1003 2 = 40 ∧ gI w.2.2 1003 3 = gI g 1003 10)) := by
  have htl := hT.2.2
  refine Ctr.mk (lb := [some (.ref 1003), some (.int 1), none]) (by decide +kernel) (Nat.le_of_ble_eq_true rfl) rfl rfl ?_
  intro pp ee ss mm aa bb mt cd X hrt hlk hnm
  refine v_inv (fun hBB _ => ?_)
  have hbt : ∀ x ∈ tk, x.toInt8.toInt32 = x := rw_byte hBB (r := 1009) (N := 32768) rfl hT.2.1
  have exf : ∀ (k : Nat) (h : mu_T), k ≤ tk.length → ¬ xs.length + tk.length ≤ 16384 → rs g h [2, 3, 36] [1018] → gI h 1003 2 = 40 → gI h 1003 3 = gI g 1003 10 → Vv pp l ee (rmT 3 0 0) ss mm aa bb mt cd 3 q (MQ bb (Qw q (fun v w => v = none ∧ rs g w.2.2 [2, 3, 36] [1018] ∧ (xs.length + tk.length ≤ 16384 → gI w.2.2 1003 2 = 0 ∧ AG w.2.2 (xs ++ tk)) ∧ (¬ xs.length + tk.length ≤ 16384 → gI w.2.2 1003 2 = 40 ∧ gI w.2.2 1003 3 = gI g 1003 10))) aa ss 0 0 (fun a => q.1 ≤ a)) 2 [some (.ref 1003), some (.int 1), some (.int (nI k))] [] (0, 0, h) := by
    intro k h hk hcn hs e2 e3
    have hSh := hs.S hS
    have h18 : gI h 1003 18 = nI tk.length := (hs.2 18 (by decide)).trans hT.1
    by_cases c : tk.length ≤ k
    · refine v_iload_n X (dk D_Rf_putToken 2 rfl) rfl ?_
      refine v_aload_n X (dk D_Rf_putToken 3 rfl) rfl ?_
      refine v_getI X (dk D_Rf_putToken 4 rfl) F_Rf_109 rfl rfl (hSh.lt (by decide)) ?_
      refine v_icmp_ge (tgt := 54) X (dk D_Rf_putToken 5 rfl) (by decide) (fun _ => ?_) (fun c7 => absurd (by rw [h18]; exact nI_le (by omega) (by omega)) c7)
      exact v_vret X hlk hrt (dk D_Rf_putToken 28 rfl) ⟨rfl, hs, fun z => absurd z hcn, fun _ => ⟨e2, e3⟩⟩
    · refine v_iload_n X (dk D_Rf_putToken 2 rfl) rfl ?_
      refine v_aload_n X (dk D_Rf_putToken 3 rfl) rfl ?_
      refine v_getI X (dk D_Rf_putToken 4 rfl) F_Rf_109 rfl rfl (hSh.lt (by decide)) ?_
      refine v_icmp_ge (tgt := 54) X (dk D_Rf_putToken 5 rfl) (by decide) (fun c7 => absurd c7 (by rw [h18]; exact nI_ge (by omega) (by omega))) (fun _ => ?_)
      refine v_aload_n X (dk D_Rf_putToken 6 rfl) rfl ?_
      refine v_getI X (dk D_Rf_putToken 7 rfl) F_Rf_72 rfl rfl (hSh.lt (by decide)) ?_
      refine v_if_ne (tgt := 54) X (dk D_Rf_putToken 8 rfl) (by decide) (fun _ => ?_) (fun c14 => absurd c14 (by rw [e2]; decide))
      exact v_vret X hlk hrt (dk D_Rf_putToken 28 rfl) ⟨rfl, hs, fun z => absurd z hcn, fun _ => ⟨e2, e3⟩⟩
  have loop : ∀ (d k : Nat) (h : mu_T), k + d = tk.length → rs g h [2, 3, 36] [1018] → rs g h [36] [1018] → AG h (xs ++ tk.take k) → Vv pp l ee (rmT 3 0 0) ss mm aa bb mt cd 3 q (MQ bb (Qw q (fun v w => v = none ∧ rs g w.2.2 [2, 3, 36] [1018] ∧ (xs.length + tk.length ≤ 16384 → gI w.2.2 1003 2 = 0 ∧ AG w.2.2 (xs ++ tk)) ∧ (¬ xs.length + tk.length ≤ 16384 → gI w.2.2 1003 2 = 40 ∧ gI w.2.2 1003 3 = gI g 1003 10))) aa ss 0 0 (fun a => q.1 ≤ a)) 2 [some (.ref 1003), some (.int 1), some (.int (nI k))] [] (0, 0, h) := by
    intro d
    induction d with
    | zero =>
      intro k h hkd hs hs0 hh
      have hSh := hs.S hS
      have h18 : gI h 1003 18 = nI tk.length := (hs.2 18 (by decide)).trans hT.1
      have hrow : ∀ j, j < tk.length → gI h 1009 j = tk.getD j 0 := fun j hj => by rw [hs.row (by decide) (by decide)]; have := hT.2.1 j hj; rw [Nat.zero_add] at this; exact this
      refine v_iload_n X (dk D_Rf_putToken 2 rfl) rfl ?_
      refine v_aload_n X (dk D_Rf_putToken 3 rfl) rfl ?_
      refine v_getI X (dk D_Rf_putToken 4 rfl) F_Rf_109 rfl rfl (hSh.lt (by decide)) ?_
      refine v_icmp_ge (tgt := 54) X (dk D_Rf_putToken 5 rfl) (by decide) (fun _ => ?_) (fun c7 => absurd (by rw [h18]; exact nI_le (by omega) (by omega)) c7)
      exact v_vret X hlk hrt (dk D_Rf_putToken 28 rfl) ⟨rfl, hs, fun _ => ⟨(hs0.2 2 (by decide)).trans he, by rw [List.take_of_length_le (by omega)] at hh; exact hh⟩, fun z => absurd (show xs.length + tk.length ≤ 16384 by have := hh.2.2; rw [List.length_append, List.length_take] at this; omega) z⟩
    | succ d ih =>
      intro k h hkd hs hs0 hh
      have hSh := hs.S hS
      have h18 : gI h 1003 18 = nI tk.length := (hs.2 18 (by decide)).trans hT.1
      have hrow : ∀ j, j < tk.length → gI h 1009 j = tk.getD j 0 := fun j hj => by rw [hs.row (by decide) (by decide)]; have := hT.2.1 j hj; rw [Nat.zero_add] at this; exact this
      have hxl : (xs ++ tk.take k).length = xs.length + k := by rw [List.length_append, List.length_take]; omega
      by_cases cf : xs.length + k < 16384
      · refine v_iload_n X (dk D_Rf_putToken 2 rfl) rfl ?_
        refine v_aload_n X (dk D_Rf_putToken 3 rfl) rfl ?_
        refine v_getI X (dk D_Rf_putToken 4 rfl) F_Rf_109 rfl rfl (hSh.lt (by decide)) ?_
        refine v_icmp_ge (tgt := 54) X (dk D_Rf_putToken 5 rfl) (by decide) (fun c7 => absurd c7 (by rw [h18]; exact nI_ge (by omega) (by omega))) (fun _ => ?_)
        refine v_aload_n X (dk D_Rf_putToken 6 rfl) rfl ?_
        refine v_getI X (dk D_Rf_putToken 7 rfl) F_Rf_72 rfl rfl (hSh.lt (by decide)) ?_
        refine v_if_ne (tgt := 54) X (dk D_Rf_putToken 8 rfl) (by decide) (fun c14 => absurd ((hs0.2 2 (by decide)).trans he) c14) (fun _ => ?_)
        refine v_iload_n X (dk D_Rf_putToken 9 rfl) rfl ?_
        refine v_if_eq (tgt := 34) X (dk D_Rf_putToken 10 rfl) (by decide) (fun c18 => absurd c18 (by decide)) (fun _ => ?_)
        refine v_aload_n X (dk D_Rf_putToken 11 rfl) rfl ?_
        refine v_aload_n X (dk D_Rf_putToken 12 rfl) rfl ?_
        refine v_getF X (dk D_Rf_putToken 13 rfl) F_Rf_27 rfl rfl (hSh.lt (by decide)) (hSh.2 1003 17) ?_
        refine v_iload_n X (dk D_Rf_putToken 14 rfl) rfl ?_
        refine v_bald X (dk D_Rf_putToken 15 rfl) rfl (hSh.lt (by decide)) (vp_in_nI (show k < 32768 by omega) (by decide)) ?_
        rw [nI_clamp (by omega), hrow k (by omega)]
        refine v_invV (As := [.int (tk.getD k 0)]) (st := []) X (r_putArgument l q (x := (tk.getD k 0)) hSh hh (by omega)) (dk D_Rf_putToken 16 rfl) G_Rf_229 K_Rf_putArgument V_Rf_putArgument rfl rfl (hSh.lt (by decide)) rfl rfl (Nat.le_of_ble_eq_true rfl) (Nat.le_of_ble_eq_true rfl) (Nat.le_of_ble_eq_true rfl) (Nat.le_of_ble_eq_true rfl) (Nat.le_of_ble_eq_true rfl) ?_
        rintro v w1 ⟨rfl, a1, a2⟩
        rw [show (tk.getD k 0).toInt8.toInt32 = (tk.getD k 0) from hbt _ (getD_mem (by omega)), List.append_assoc, ← take_s (by omega)] at a2
        show Vv _ _ _ _ _ _ _ _ _ _ _ _ _ _ _ [] (0, 0, w1.2.2)
        refine v_goto (tgt := 48) X (dk D_Rf_putToken 17 rfl) (by decide) ?_
        refine v_iinc (v := nI (k + 1)) (lb := [some (.ref 1003), some (.int 1), some (.int (nI (k + 1)))]) X (dk D_Rf_putToken 26 rfl) rfl (nI_1 _) (by decide) rfl ?_
        refine v_goto (tgt := 2) X (dk D_Rf_putToken 27 rfl) (by decide) ?_
        exact ih (k + 1) w1.2.2 (by omega) (hs.tr (a1.mono (by simp) (by simp))) (hs0.tr a1) a2
      · have h16 := hh.2.2
        refine v_iload_n X (dk D_Rf_putToken 2 rfl) rfl ?_
        refine v_aload_n X (dk D_Rf_putToken 3 rfl) rfl ?_
        refine v_getI X (dk D_Rf_putToken 4 rfl) F_Rf_109 rfl rfl (hSh.lt (by decide)) ?_
        refine v_icmp_ge (tgt := 54) X (dk D_Rf_putToken 5 rfl) (by decide) (fun c7 => absurd c7 (by rw [h18]; exact nI_ge (by omega) (by omega))) (fun _ => ?_)
        refine v_aload_n X (dk D_Rf_putToken 6 rfl) rfl ?_
        refine v_getI X (dk D_Rf_putToken 7 rfl) F_Rf_72 rfl rfl (hSh.lt (by decide)) ?_
        refine v_if_ne (tgt := 54) X (dk D_Rf_putToken 8 rfl) (by decide) (fun c14 => absurd ((hs0.2 2 (by decide)).trans he) c14) (fun _ => ?_)
        refine v_iload_n X (dk D_Rf_putToken 9 rfl) rfl ?_
        refine v_if_eq (tgt := 34) X (dk D_Rf_putToken 10 rfl) (by decide) (fun c18 => absurd c18 (by decide)) (fun _ => ?_)
        refine v_aload_n X (dk D_Rf_putToken 11 rfl) rfl ?_
        refine v_aload_n X (dk D_Rf_putToken 12 rfl) rfl ?_
        refine v_getF X (dk D_Rf_putToken 13 rfl) F_Rf_27 rfl rfl (hSh.lt (by decide)) (hSh.2 1003 17) ?_
        refine v_iload_n X (dk D_Rf_putToken 14 rfl) rfl ?_
        refine v_bald X (dk D_Rf_putToken 15 rfl) rfl (hSh.lt (by decide)) (vp_in_nI (show k < 32768 by omega) (by decide)) ?_
        rw [nI_clamp (by omega), hrow k (by omega)]
        refine v_invV (As := [.int (tk.getD k 0)]) (st := []) X (r_putArgumentF l q (x := (tk.getD k 0)) hSh hh ((hs0.2 2 (by decide)).trans he) (by omega)) (dk D_Rf_putToken 16 rfl) G_Rf_229 K_Rf_putArgument V_Rf_putArgument rfl rfl (hSh.lt (by decide)) rfl rfl (Nat.le_of_ble_eq_true rfl) (Nat.le_of_ble_eq_true rfl) (Nat.le_of_ble_eq_true rfl) (Nat.le_of_ble_eq_true rfl) (Nat.le_of_ble_eq_true rfl) ?_
        rintro v w1 ⟨rfl, hw⟩
        rw [hw]
        show Vv _ _ _ _ _ _ _ _ _ _ _ _ _ _ _ [] (0, 0, xI (xI h 1003 2 40) 1003 3 (gI h 1003 10))
        refine v_goto (tgt := 48) X (dk D_Rf_putToken 17 rfl) (by decide) ?_
        refine v_iinc (v := nI (k + 1)) (lb := [some (.ref 1003), some (.int 1), some (.int (nI (k + 1)))]) X (dk D_Rf_putToken 26 rfl) rfl (nI_1 _) (by decide) rfl ?_
        refine v_goto (tgt := 2) X (dk D_Rf_putToken 27 rfl) (by decide) ?_
        exact exf (k + 1) _ (by omega) (by omega) ((hs.fI (by decide)).fI (by decide)) ((gI_nk (by decide)).trans (gI_eq _ _ _ _)) ((gI_eq _ _ _ _).trans (hs0.2 10 (by decide)))
  refine v_iconst (v := nI 0) X (dk D_Rf_putToken 0 rfl) (by decide) ?_
  refine v_istore_n (lb := [some (.ref 1003), some (.int 1), some (.int (nI 0))]) X (dk D_Rf_putToken 1 rfl) (by decide) rfl ?_
  exact loop tk.length 0 g (by omega) (rs.rf g _ _) (rs.rf g _ _) (by rw [List.take_zero, List.append_nil]; exact hA)
set_option maxHeartbeats 4000000 in
set_option maxRecDepth 100000 in
theorem r_putTokenN (l : Launch) (q : ev_T) {D : Nat → List Int32} {tk : List Int32} {g : mu_T} (hS : Shp g) (hD : DVR g (-1) D) (hT : TK g tk) (he : gI g 1003 2 = 0) : Ctr l q M_Rf_putToken 3 [.ref 1003, .int 0] (0, 0, g) (fun v w => v = none ∧ w.2.2 = g) := by
  have htl := hT.2.2
  refine Ctr.mk (lb := [some (.ref 1003), some (.int 0), none]) (by decide +kernel) (Nat.le_of_ble_eq_true rfl) rfl rfl ?_
  intro pp ee ss mm aa bb mt cd X hrt hlk hnm
  have loop : ∀ (d k : Nat), k + d = tk.length → Vv pp l ee (rmT 3 0 0) ss mm aa bb mt cd 3 q (MQ bb (Qw q (fun v w => v = none ∧ w.2.2 = g)) aa ss 0 0 (fun a => q.1 ≤ a)) 2 [some (.ref 1003), some (.int 0), some (.int (nI k))] [] (0, 0, g) := by
    intro d
    induction d with
    | zero =>
      intro k hkd
      refine v_iload_n X (dk D_Rf_putToken 2 rfl) rfl ?_
      refine v_aload_n X (dk D_Rf_putToken 3 rfl) rfl ?_
      refine v_getI X (dk D_Rf_putToken 4 rfl) F_Rf_109 rfl rfl (hS.lt (by decide)) ?_
      refine v_icmp_ge (tgt := 54) X (dk D_Rf_putToken 5 rfl) (by decide) (fun _ => ?_) (fun c7 => absurd (by rw [hT.1]; exact nI_le (by omega) (by omega)) c7)
      exact v_vret X hlk hrt (dk D_Rf_putToken 28 rfl) ⟨rfl, rfl⟩
    | succ d ih =>
      intro k hkd
      refine v_iload_n X (dk D_Rf_putToken 2 rfl) rfl ?_
      refine v_aload_n X (dk D_Rf_putToken 3 rfl) rfl ?_
      refine v_getI X (dk D_Rf_putToken 4 rfl) F_Rf_109 rfl rfl (hS.lt (by decide)) ?_
      refine v_icmp_ge (tgt := 54) X (dk D_Rf_putToken 5 rfl) (by decide) (fun c7 => absurd c7 (by rw [hT.1]; exact nI_ge (by omega) (by omega))) (fun _ => ?_)
      refine v_aload_n X (dk D_Rf_putToken 6 rfl) rfl ?_
      refine v_getI X (dk D_Rf_putToken 7 rfl) F_Rf_72 rfl rfl (hS.lt (by decide)) ?_
      refine v_if_ne (tgt := 54) X (dk D_Rf_putToken 8 rfl) (by decide) (fun c14 => absurd he c14) (fun _ => ?_)
      refine v_iload_n X (dk D_Rf_putToken 9 rfl) rfl ?_
      refine v_if_eq (tgt := 34) X (dk D_Rf_putToken 10 rfl) (by decide) (fun _ => ?_) (fun c18 => absurd rfl c18)
      refine v_aload_n X (dk D_Rf_putToken 18 rfl) rfl ?_
      refine v_aload_n X (dk D_Rf_putToken 19 rfl) rfl ?_
      refine v_getI X (dk D_Rf_putToken 20 rfl) F_Rf_220 rfl rfl (hS.lt (by decide)) ?_
      rw [hD.1]
      refine v_aload_n X (dk D_Rf_putToken 21 rfl) rfl ?_
      refine v_getF X (dk D_Rf_putToken 22 rfl) F_Rf_27 rfl rfl (hS.lt (by decide)) (hS.2 1003 17) ?_
      refine v_iload_n X (dk D_Rf_putToken 23 rfl) rfl ?_
      refine v_bald X (dk D_Rf_putToken 24 rfl) rfl (hS.lt (by decide)) (vp_in_nI (show k < 32768 by omega) (by decide)) ?_
      rw [nI_clamp (by omega), show gI g 1009 k = tk.getD k 0 from by have := hT.2.1 k (by omega); rw [Nat.zero_add] at this; exact this]
      refine v_invV (As := [.int (-1), .int (tk.getD k 0)]) (st := []) X (r_divertN l q (x := (tk.getD k 0))) (dk D_Rf_putToken 25 rfl) G_Rf_223 K_Rf_divertByte V_Rf_divertByte rfl rfl (hS.lt (by decide)) rfl rfl (Nat.le_of_ble_eq_true rfl) (Nat.le_of_ble_eq_true rfl) (Nat.le_of_ble_eq_true rfl) (Nat.le_of_ble_eq_true rfl) (Nat.le_of_ble_eq_true rfl) ?_
      rintro v w1 ⟨rfl, hw⟩
      rw [hw]
      show Vv _ _ _ _ _ _ _ _ _ _ _ _ _ _ _ [] (0, 0, g)
      refine v_iinc (v := nI (k + 1)) (lb := [some (.ref 1003), some (.int 0), some (.int (nI (k + 1)))]) X (dk D_Rf_putToken 26 rfl) rfl (nI_1 _) (by decide) rfl ?_
      refine v_goto (tgt := 2) X (dk D_Rf_putToken 27 rfl) (by decide) ?_
      exact ih (k + 1) (by omega)
  refine v_iconst (v := nI 0) X (dk D_Rf_putToken 0 rfl) (by decide) ?_
  refine v_istore_n (lb := [some (.ref 1003), some (.int 0), some (.int (nI 0))]) X (dk D_Rf_putToken 1 rfl) (by decide) rfl ?_
  exact loop tk.length 0 (by omega)
set_option maxHeartbeats 4000000 in
set_option maxRecDepth 100000 in
theorem r_putTokenD (l : Launch) (q : ev_T) {c : Nat} {D : Nat → List Int32} {tk : List Int32} {g : mu_T} (hS : Shp g) (hD : DVR g (nI c) D) (hc : c < 10) (hT : TK g tk) (he : gI g 1003 2 = 0) : Ctr l q M_Rf_putToken 3 [.ref 1003, .int 0] (0, 0, g) (fun v w => v = none ∧ rs g w.2.2 [2, 3, 32] [1016, 1017] ∧ (dvt D + tk.length ≤ 32768 → gI w.2.2 1003 2 = 0 ∧ DVR w.2.2 (nI c) (va_up D c (D c ++ tk))) ∧ (¬ dvt D + tk.length ≤ 32768 → gI w.2.2 1003 2 = 40 ∧ gI w.2.2 1003 3 = gI g 1003 10)) := by
  have htl := hT.2.2
  refine Ctr.mk (lb := [some (.ref 1003), some (.int 0), none]) (by decide +kernel) (Nat.le_of_ble_eq_true rfl) rfl rfl ?_
  intro pp ee ss mm aa bb mt cd X hrt hlk hnm
  refine v_inv (fun hBB _ => ?_)
  have hbt : ∀ x ∈ tk, x.toInt8.toInt32 = x := rw_byte hBB (r := 1009) (N := 32768) rfl hT.2.1
  have exf : ∀ (k : Nat) (h : mu_T), k ≤ tk.length → ¬ dvt D + tk.length ≤ 32768 → rs g h [2, 3, 32] [1016, 1017] → gI h 1003 2 = 40 → gI h 1003 3 = gI g 1003 10 → Vv pp l ee (rmT 3 0 0) ss mm aa bb mt cd 3 q (MQ bb (Qw q (fun v w => v = none ∧ rs g w.2.2 [2, 3, 32] [1016, 1017] ∧ (dvt D + tk.length ≤ 32768 → gI w.2.2 1003 2 = 0 ∧ DVR w.2.2 (nI c) (va_up D c (D c ++ tk))) ∧ (¬ dvt D + tk.length ≤ 32768 → gI w.2.2 1003 2 = 40 ∧ gI w.2.2 1003 3 = gI g 1003 10))) aa ss 0 0 (fun a => q.1 ≤ a)) 2 [some (.ref 1003), some (.int 0), some (.int (nI k))] [] (0, 0, h) := by
    intro k h hk hcn hs e2 e3
    have hSh := hs.S hS
    have h18 : gI h 1003 18 = nI tk.length := (hs.2 18 (by decide)).trans hT.1
    by_cases c : tk.length ≤ k
    · refine v_iload_n X (dk D_Rf_putToken 2 rfl) rfl ?_
      refine v_aload_n X (dk D_Rf_putToken 3 rfl) rfl ?_
      refine v_getI X (dk D_Rf_putToken 4 rfl) F_Rf_109 rfl rfl (hSh.lt (by decide)) ?_
      refine v_icmp_ge (tgt := 54) X (dk D_Rf_putToken 5 rfl) (by decide) (fun _ => ?_) (fun c7 => absurd (by rw [h18]; exact nI_le (by omega) (by omega)) c7)
      exact v_vret X hlk hrt (dk D_Rf_putToken 28 rfl) ⟨rfl, hs, fun z => absurd z hcn, fun _ => ⟨e2, e3⟩⟩
    · refine v_iload_n X (dk D_Rf_putToken 2 rfl) rfl ?_
      refine v_aload_n X (dk D_Rf_putToken 3 rfl) rfl ?_
      refine v_getI X (dk D_Rf_putToken 4 rfl) F_Rf_109 rfl rfl (hSh.lt (by decide)) ?_
      refine v_icmp_ge (tgt := 54) X (dk D_Rf_putToken 5 rfl) (by decide) (fun c7 => absurd c7 (by rw [h18]; exact nI_ge (by omega) (by omega))) (fun _ => ?_)
      refine v_aload_n X (dk D_Rf_putToken 6 rfl) rfl ?_
      refine v_getI X (dk D_Rf_putToken 7 rfl) F_Rf_72 rfl rfl (hSh.lt (by decide)) ?_
      refine v_if_ne (tgt := 54) X (dk D_Rf_putToken 8 rfl) (by decide) (fun _ => ?_) (fun c14 => absurd c14 (by rw [e2]; decide))
      exact v_vret X hlk hrt (dk D_Rf_putToken 28 rfl) ⟨rfl, hs, fun z => absurd z hcn, fun _ => ⟨e2, e3⟩⟩
  have loop : ∀ (d k : Nat) (h : mu_T), k + d = tk.length → rs g h [2, 3, 32] [1016, 1017] → rs g h [32] [1016, 1017] → DVR h (nI c) (va_up D c (D c ++ tk.take k)) → Vv pp l ee (rmT 3 0 0) ss mm aa bb mt cd 3 q (MQ bb (Qw q (fun v w => v = none ∧ rs g w.2.2 [2, 3, 32] [1016, 1017] ∧ (dvt D + tk.length ≤ 32768 → gI w.2.2 1003 2 = 0 ∧ DVR w.2.2 (nI c) (va_up D c (D c ++ tk))) ∧ (¬ dvt D + tk.length ≤ 32768 → gI w.2.2 1003 2 = 40 ∧ gI w.2.2 1003 3 = gI g 1003 10))) aa ss 0 0 (fun a => q.1 ≤ a)) 2 [some (.ref 1003), some (.int 0), some (.int (nI k))] [] (0, 0, h) := by
    intro d
    induction d with
    | zero =>
      intro k h hkd hs hs0 hh
      have hSh := hs.S hS
      have h18 : gI h 1003 18 = nI tk.length := (hs.2 18 (by decide)).trans hT.1
      have hrow : ∀ j, j < tk.length → gI h 1009 j = tk.getD j 0 := fun j hj => by rw [hs.row (by decide) (by decide)]; have := hT.2.1 j hj; rw [Nat.zero_add] at this; exact this
      have hdv := dvt_up (D := D) (L := D c ++ tk.take k) hc
      rw [List.length_append, List.length_take] at hdv
      refine v_iload_n X (dk D_Rf_putToken 2 rfl) rfl ?_
      refine v_aload_n X (dk D_Rf_putToken 3 rfl) rfl ?_
      refine v_getI X (dk D_Rf_putToken 4 rfl) F_Rf_109 rfl rfl (hSh.lt (by decide)) ?_
      refine v_icmp_ge (tgt := 54) X (dk D_Rf_putToken 5 rfl) (by decide) (fun _ => ?_) (fun c7 => absurd (by rw [h18]; exact nI_le (by omega) (by omega)) c7)
      exact v_vret X hlk hrt (dk D_Rf_putToken 28 rfl) ⟨rfl, hs, fun _ => ⟨(hs0.2 2 (by decide)).trans he, by rw [List.take_of_length_le (by omega)] at hh; exact hh⟩, fun z => absurd (show dvt D + tk.length ≤ 32768 by have := hh.2.2.2.1; omega) z⟩
    | succ d ih =>
      intro k h hkd hs hs0 hh
      have hSh := hs.S hS
      have h18 : gI h 1003 18 = nI tk.length := (hs.2 18 (by decide)).trans hT.1
      have hrow : ∀ j, j < tk.length → gI h 1009 j = tk.getD j 0 := fun j hj => by rw [hs.row (by decide) (by decide)]; have := hT.2.1 j hj; rw [Nat.zero_add] at this; exact this
      have hdv := dvt_up (D := D) (L := D c ++ tk.take k) hc
      rw [List.length_append, List.length_take] at hdv
      have h32 := hh.2.2.2.1
      by_cases cf : dvt D + k < 32768
      · refine v_iload_n X (dk D_Rf_putToken 2 rfl) rfl ?_
        refine v_aload_n X (dk D_Rf_putToken 3 rfl) rfl ?_
        refine v_getI X (dk D_Rf_putToken 4 rfl) F_Rf_109 rfl rfl (hSh.lt (by decide)) ?_
        refine v_icmp_ge (tgt := 54) X (dk D_Rf_putToken 5 rfl) (by decide) (fun c7 => absurd c7 (by rw [h18]; exact nI_ge (by omega) (by omega))) (fun _ => ?_)
        refine v_aload_n X (dk D_Rf_putToken 6 rfl) rfl ?_
        refine v_getI X (dk D_Rf_putToken 7 rfl) F_Rf_72 rfl rfl (hSh.lt (by decide)) ?_
        refine v_if_ne (tgt := 54) X (dk D_Rf_putToken 8 rfl) (by decide) (fun c14 => absurd ((hs0.2 2 (by decide)).trans he) c14) (fun _ => ?_)
        refine v_iload_n X (dk D_Rf_putToken 9 rfl) rfl ?_
        refine v_if_eq (tgt := 34) X (dk D_Rf_putToken 10 rfl) (by decide) (fun _ => ?_) (fun c18 => absurd rfl c18)
        refine v_aload_n X (dk D_Rf_putToken 18 rfl) rfl ?_
        refine v_aload_n X (dk D_Rf_putToken 19 rfl) rfl ?_
        refine v_getI X (dk D_Rf_putToken 20 rfl) F_Rf_220 rfl rfl (hSh.lt (by decide)) ?_
        rw [hh.1]
        refine v_aload_n X (dk D_Rf_putToken 21 rfl) rfl ?_
        refine v_getF X (dk D_Rf_putToken 22 rfl) F_Rf_27 rfl rfl (hSh.lt (by decide)) (hSh.2 1003 17) ?_
        refine v_iload_n X (dk D_Rf_putToken 23 rfl) rfl ?_
        refine v_bald X (dk D_Rf_putToken 24 rfl) rfl (hSh.lt (by decide)) (vp_in_nI (show k < 32768 by omega) (by decide)) ?_
        rw [nI_clamp (by omega), hrow k (by omega)]
        refine v_invV (As := [.int (nI c), .int (tk.getD k 0)]) (st := []) X (r_divert l q (x := (tk.getD k 0)) (c := c) hSh hh hc (by omega)) (dk D_Rf_putToken 25 rfl) G_Rf_223 K_Rf_divertByte V_Rf_divertByte rfl rfl (hSh.lt (by decide)) rfl rfl (Nat.le_of_ble_eq_true rfl) (Nat.le_of_ble_eq_true rfl) (Nat.le_of_ble_eq_true rfl) (Nat.le_of_ble_eq_true rfl) (Nat.le_of_ble_eq_true rfl) ?_
        rintro v w1 ⟨rfl, a1, a2, -⟩
        rw [show (tk.getD k 0).toInt8.toInt32 = (tk.getD k 0) from hbt _ (getD_mem (by omega)), va_up_eq, va_up_up, List.append_assoc, ← take_s (by omega)] at a2
        show Vv _ _ _ _ _ _ _ _ _ _ _ _ _ _ _ [] (0, 0, w1.2.2)
        refine v_iinc (v := nI (k + 1)) (lb := [some (.ref 1003), some (.int 0), some (.int (nI (k + 1)))]) X (dk D_Rf_putToken 26 rfl) rfl (nI_1 _) (by decide) rfl ?_
        refine v_goto (tgt := 2) X (dk D_Rf_putToken 27 rfl) (by decide) ?_
        exact ih (k + 1) w1.2.2 (by omega) (hs.tr (a1.mono (by simp) (by simp))) (hs0.tr a1) a2
      · refine v_iload_n X (dk D_Rf_putToken 2 rfl) rfl ?_
        refine v_aload_n X (dk D_Rf_putToken 3 rfl) rfl ?_
        refine v_getI X (dk D_Rf_putToken 4 rfl) F_Rf_109 rfl rfl (hSh.lt (by decide)) ?_
        refine v_icmp_ge (tgt := 54) X (dk D_Rf_putToken 5 rfl) (by decide) (fun c7 => absurd c7 (by rw [h18]; exact nI_ge (by omega) (by omega))) (fun _ => ?_)
        refine v_aload_n X (dk D_Rf_putToken 6 rfl) rfl ?_
        refine v_getI X (dk D_Rf_putToken 7 rfl) F_Rf_72 rfl rfl (hSh.lt (by decide)) ?_
        refine v_if_ne (tgt := 54) X (dk D_Rf_putToken 8 rfl) (by decide) (fun c14 => absurd ((hs0.2 2 (by decide)).trans he) c14) (fun _ => ?_)
        refine v_iload_n X (dk D_Rf_putToken 9 rfl) rfl ?_
        refine v_if_eq (tgt := 34) X (dk D_Rf_putToken 10 rfl) (by decide) (fun _ => ?_) (fun c18 => absurd rfl c18)
        refine v_aload_n X (dk D_Rf_putToken 18 rfl) rfl ?_
        refine v_aload_n X (dk D_Rf_putToken 19 rfl) rfl ?_
        refine v_getI X (dk D_Rf_putToken 20 rfl) F_Rf_220 rfl rfl (hSh.lt (by decide)) ?_
        rw [hh.1]
        refine v_aload_n X (dk D_Rf_putToken 21 rfl) rfl ?_
        refine v_getF X (dk D_Rf_putToken 22 rfl) F_Rf_27 rfl rfl (hSh.lt (by decide)) (hSh.2 1003 17) ?_
        refine v_iload_n X (dk D_Rf_putToken 23 rfl) rfl ?_
        refine v_bald X (dk D_Rf_putToken 24 rfl) rfl (hSh.lt (by decide)) (vp_in_nI (show k < 32768 by omega) (by decide)) ?_
        rw [nI_clamp (by omega), hrow k (by omega)]
        refine v_invV (As := [.int (nI c), .int (tk.getD k 0)]) (st := []) X (r_divertF l q (x := (tk.getD k 0)) (c := c) hSh hh ((hs0.2 2 (by decide)).trans he) hc (by omega)) (dk D_Rf_putToken 25 rfl) G_Rf_223 K_Rf_divertByte V_Rf_divertByte rfl rfl (hSh.lt (by decide)) rfl rfl (Nat.le_of_ble_eq_true rfl) (Nat.le_of_ble_eq_true rfl) (Nat.le_of_ble_eq_true rfl) (Nat.le_of_ble_eq_true rfl) (Nat.le_of_ble_eq_true rfl) ?_
        rintro v w1 ⟨rfl, hw⟩
        rw [hw]
        show Vv _ _ _ _ _ _ _ _ _ _ _ _ _ _ _ [] (0, 0, xI (xI h 1003 2 40) 1003 3 (gI h 1003 10))
        refine v_iinc (v := nI (k + 1)) (lb := [some (.ref 1003), some (.int 0), some (.int (nI (k + 1)))]) X (dk D_Rf_putToken 26 rfl) rfl (nI_1 _) (by decide) rfl ?_
        refine v_goto (tgt := 2) X (dk D_Rf_putToken 27 rfl) (by decide) ?_
        exact exf (k + 1) _ (by omega) (by omega) ((hs.fI (by decide)).fI (by decide)) ((gI_nk (by decide)).trans (gI_eq _ _ _ _)) ((gI_eq _ _ _ _).trans (hs0.2 10 (by decide)))
  refine v_iconst (v := nI 0) X (dk D_Rf_putToken 0 rfl) (by decide) ?_
  refine v_istore_n (lb := [some (.ref 1003), some (.int 0), some (.int (nI 0))]) X (dk D_Rf_putToken 1 rfl) (by decide) rfl ?_
  exact loop tk.length 0 g (by omega) (rs.rf g _ _) (rs.rf g _ _) (by rw [List.take_zero, List.append_nil, va_up_id]; exact hD)
set_option maxHeartbeats 4000000 in
set_option maxRecDepth 100000 in
theorem r_argumentAt (l : Launch) (q : ev_T) {f : Fr} {r : List Fr} {i : Nat} {g : mu_T} (hS : Shp g) (hC : AC g f r) (hi : i < 10000) : Ctr l q M_Rf_argumentAt 0 [.ref 1003, .int (nI (na r)), .int (nI (i + 1))] (0, 0, g) (fun v w => v = some (.int (nI (stA f r i))) ∧ w.2.2 = g) := by
  have hna : na r + f.2.1.length ≤ 8192 := hC.1.2.2.1
  have h37 : gI g 1003 37 = nI (na r + f.2.1.length) := hC.1.2.1
  have hst := hC.1.2.2.2.2.2.1
  refine Ctr.mk (lb := [some (.ref 1003), some (.int (nI (na r))), some (.int (nI (i + 1)))]) (by decide +kernel) (Nat.le_of_ble_eq_true rfl) rfl rfl ?_
  intro pp ee ss mm aa bb mt cd X hrt hlk hnm
  by_cases c : i < f.2.1.length
  · refine v_iload_n X (dk D_Rf_argumentAt 0 rfl) rfl ?_
    refine v_iload_n X (dk D_Rf_argumentAt 1 rfl) rfl ?_
    refine v_iadd X (dk D_Rf_argumentAt 2 rfl) ?_
    rw [nI_add]
    refine v_iconst (v := 1) X (dk D_Rf_argumentAt 3 rfl) (by decide) ?_
    refine v_isub X (dk D_Rf_argumentAt 4 rfl) ?_
    rw [show na r + (i + 1) = na r + i + 1 by omega, nI_pred]
    refine v_aload_n X (dk D_Rf_argumentAt 5 rfl) rfl ?_
    refine v_getI X (dk D_Rf_argumentAt 6 rfl) F_Rf_243 rfl rfl (hS.lt (by decide)) ?_
    refine v_icmp_ge (tgt := 25) X (dk D_Rf_argumentAt 7 rfl) (by decide) (fun c9 => absurd c9 (by rw [h37]; exact nI_ge (by omega) (by omega))) (fun _ => ?_)
    refine v_aload_n X (dk D_Rf_argumentAt 8 rfl) rfl ?_
    refine v_getF X (dk D_Rf_argumentAt 9 rfl) F_Rf_59 rfl rfl (hS.lt (by decide)) (hS.2 1003 38) ?_
    refine v_iload_n X (dk D_Rf_argumentAt 10 rfl) rfl ?_
    refine v_iload_n X (dk D_Rf_argumentAt 11 rfl) rfl ?_
    refine v_iadd X (dk D_Rf_argumentAt 12 rfl) ?_
    rw [nI_add]
    refine v_iconst (v := 1) X (dk D_Rf_argumentAt 13 rfl) (by decide) ?_
    refine v_isub X (dk D_Rf_argumentAt 14 rfl) ?_
    rw [show na r + (i + 1) = na r + i + 1 by omega, nI_pred]
    refine v_iald X (dk D_Rf_argumentAt 15 rfl) rfl (hS.lt (by decide)) (vp_in_nI (show na r + i < 8300 by omega) (by decide)) ?_
    rw [nI_clamp (by omega), hst i c]
    refine v_goto (tgt := 34) X (dk D_Rf_argumentAt 16 rfl) (by decide) ?_
    exact v_iret X hlk hrt (dk D_Rf_argumentAt 22 rfl) ⟨rfl, rfl⟩
  · refine v_iload_n X (dk D_Rf_argumentAt 0 rfl) rfl ?_
    refine v_iload_n X (dk D_Rf_argumentAt 1 rfl) rfl ?_
    refine v_iadd X (dk D_Rf_argumentAt 2 rfl) ?_
    rw [nI_add]
    refine v_iconst (v := 1) X (dk D_Rf_argumentAt 3 rfl) (by decide) ?_
    refine v_isub X (dk D_Rf_argumentAt 4 rfl) ?_
    rw [show na r + (i + 1) = na r + i + 1 by omega, nI_pred]
    refine v_aload_n X (dk D_Rf_argumentAt 5 rfl) rfl ?_
    refine v_getI X (dk D_Rf_argumentAt 6 rfl) F_Rf_243 rfl rfl (hS.lt (by decide)) ?_
    refine v_icmp_ge (tgt := 25) X (dk D_Rf_argumentAt 7 rfl) (by decide) (fun _ => ?_) (fun c9 => absurd (by rw [h37]; exact nI_le (by omega) (by omega)) c9)
    refine v_aload_n X (dk D_Rf_argumentAt 17 rfl) rfl ?_
    refine v_getF X (dk D_Rf_argumentAt 18 rfl) F_Rf_59 rfl rfl (hS.lt (by decide)) (hS.2 1003 38) ?_
    refine v_aload_n X (dk D_Rf_argumentAt 19 rfl) rfl ?_
    refine v_getI X (dk D_Rf_argumentAt 20 rfl) F_Rf_243 rfl rfl (hS.lt (by decide)) ?_
    refine v_iald X (dk D_Rf_argumentAt 21 rfl) rfl (hS.lt (by decide)) (by rw [h37]; exact vp_in_nI (show na r + f.2.1.length < 8300 by omega) (by decide)) ?_
    rw [h37, nI_clamp (by omega), show gI g 1019 (na r + f.2.1.length) = nI (hl (f :: r)).length from hC.2]
    exact v_iret X hlk hrt (dk D_Rf_argumentAt 22 rfl) ⟨by rw [stA_end (by omega)], rfl⟩
set_option maxHeartbeats 4000000 in
set_option maxRecDepth 100000 in
theorem r_argumentSize (l : Launch) (q : ev_T) {f : Fr} {r : List Fr} {i : Nat} {g : mu_T} (hS : Shp g) (hC : AC g f r) (hi : i < 10000) : Ctr l q M_Rf_argumentSize 0 [.ref 1003, .int (nI (na r)), .int (nI (i + 1))] (0, 0, g) (fun v w => v = some (.int (nI (f.2.1.getD i []).length)) ∧ w.2.2 = g) := by
  have hna : na r + f.2.1.length ≤ 8192 := hC.1.2.2.1
  have h37 : gI g 1003 37 = nI (na r + f.2.1.length) := hC.1.2.1
  have hst := hC.1.2.2.2.2.2.1
  have hnx : i < f.2.1.length → gI g 1019 (na r + (i + 1)) = nI (stA f r (i + 1)) := fun c => by
    by_cases e : i + 1 < f.2.1.length
    · exact hst (i + 1) e
    · rw [stA_end (by omega), show na r + (i + 1) = na (f :: r) by rw [na]; omega]; exact hC.2
  refine Ctr.mk (lb := [some (.ref 1003), some (.int (nI (na r))), some (.int (nI (i + 1)))]) (by decide +kernel) (Nat.le_of_ble_eq_true rfl) rfl rfl ?_
  intro pp ee ss mm aa bb mt cd X hrt hlk hnm
  by_cases c : i < f.2.1.length
  · refine v_iload_n X (dk D_Rf_argumentSize 0 rfl) rfl ?_
    refine v_iload_n X (dk D_Rf_argumentSize 1 rfl) rfl ?_
    refine v_iadd X (dk D_Rf_argumentSize 2 rfl) ?_
    rw [nI_add]
    refine v_iconst (v := 1) X (dk D_Rf_argumentSize 3 rfl) (by decide) ?_
    refine v_isub X (dk D_Rf_argumentSize 4 rfl) ?_
    rw [show na r + (i + 1) = na r + i + 1 by omega, nI_pred]
    refine v_aload_n X (dk D_Rf_argumentSize 5 rfl) rfl ?_
    refine v_getI X (dk D_Rf_argumentSize 6 rfl) F_Rf_243 rfl rfl (hS.lt (by decide)) ?_
    refine v_icmp_ge (tgt := 34) X (dk D_Rf_argumentSize 7 rfl) (by decide) (fun c9 => absurd c9 (by rw [h37]; exact nI_ge (by omega) (by omega))) (fun _ => ?_)
    refine v_aload_n X (dk D_Rf_argumentSize 8 rfl) rfl ?_
    refine v_getF X (dk D_Rf_argumentSize 9 rfl) F_Rf_59 rfl rfl (hS.lt (by decide)) (hS.2 1003 38) ?_
    refine v_iload_n X (dk D_Rf_argumentSize 10 rfl) rfl ?_
    refine v_iload_n X (dk D_Rf_argumentSize 11 rfl) rfl ?_
    refine v_iadd X (dk D_Rf_argumentSize 12 rfl) ?_
    rw [nI_add]
    refine v_iald X (dk D_Rf_argumentSize 13 rfl) rfl (hS.lt (by decide)) (vp_in_nI (show na r + (i + 1) < 8300 by omega) (by decide)) ?_
    rw [nI_clamp (by omega), hnx c]
    refine v_aload_n X (dk D_Rf_argumentSize 14 rfl) rfl ?_
    refine v_getF X (dk D_Rf_argumentSize 15 rfl) F_Rf_59 rfl rfl (hS.lt (by decide)) (hS.2 1003 38) ?_
    refine v_iload_n X (dk D_Rf_argumentSize 16 rfl) rfl ?_
    refine v_iload_n X (dk D_Rf_argumentSize 17 rfl) rfl ?_
    refine v_iadd X (dk D_Rf_argumentSize 18 rfl) ?_
    rw [nI_add]
    refine v_iconst (v := 1) X (dk D_Rf_argumentSize 19 rfl) (by decide) ?_
    refine v_isub X (dk D_Rf_argumentSize 20 rfl) ?_
    rw [show na r + (i + 1) = na r + i + 1 by omega, nI_pred]
    refine v_iald X (dk D_Rf_argumentSize 21 rfl) rfl (hS.lt (by decide)) (vp_in_nI (show na r + i < 8300 by omega) (by decide)) ?_
    rw [nI_clamp (by omega), hst i c]
    refine v_isub X (dk D_Rf_argumentSize 22 rfl) ?_
    rw [stA_succ, pk_sub (by omega), Nat.add_sub_cancel_left]
    refine v_goto (tgt := 35) X (dk D_Rf_argumentSize 23 rfl) (by decide) ?_
    exact v_iret X hlk hrt (dk D_Rf_argumentSize 25 rfl) ⟨rfl, rfl⟩
  · refine v_iload_n X (dk D_Rf_argumentSize 0 rfl) rfl ?_
    refine v_iload_n X (dk D_Rf_argumentSize 1 rfl) rfl ?_
    refine v_iadd X (dk D_Rf_argumentSize 2 rfl) ?_
    rw [nI_add]
    refine v_iconst (v := 1) X (dk D_Rf_argumentSize 3 rfl) (by decide) ?_
    refine v_isub X (dk D_Rf_argumentSize 4 rfl) ?_
    rw [show na r + (i + 1) = na r + i + 1 by omega, nI_pred]
    refine v_aload_n X (dk D_Rf_argumentSize 5 rfl) rfl ?_
    refine v_getI X (dk D_Rf_argumentSize 6 rfl) F_Rf_243 rfl rfl (hS.lt (by decide)) ?_
    refine v_icmp_ge (tgt := 34) X (dk D_Rf_argumentSize 7 rfl) (by decide) (fun _ => ?_) (fun c9 => absurd (by rw [h37]; exact nI_le (by omega) (by omega)) c9)
    refine v_iconst (v := 0) X (dk D_Rf_argumentSize 24 rfl) (by decide) ?_
    exact v_iret X hlk hrt (dk D_Rf_argumentSize 25 rfl) ⟨by rw [List.getD_eq_getElem?_getD, List.getElem?_eq_none (by omega)]; rfl, rfl⟩
