/-! Chain and Cells: the rows of the small methods -/
/-- the kinds of a Cells object c: bytes in rb, links in rn, N places -/
def isC (g : mu_T) (c rb rn N : Nat) : Prop := kdT c = .inl 3 ∧ c < gN g ∧ gF g c 0 = some rb ∧ gF g c 1 = some rn ∧ kdT rb = .inr (1, N) ∧ rb < gN g ∧ kdT rn = .inr (0, N) ∧ rn < gN g ∧ N < 1073741824
theorem isC.sm {g h : mu_T} {S : List Nat} {c rb rn N : Nat} (i : isC g c rb rn N) (z : sm g h S) : isC h c rb rn N := by
  obtain ⟨h1, h2, h3, h4, h5, h6, h7, h8, h9⟩ := i
  exact ⟨h1, by rw [z.N]; exact h2, by rw [z.F]; exact h3, by rw [z.F]; exact h4, h5, by rw [z.N]; exact h6, h7, by rw [z.N]; exact h8, h9⟩
def isH (g : mu_T) (h : Nat) : Prop := kdT h = .inl 4 ∧ h < gN g
theorem isH.sm {g k : mu_T} {S : List Nat} {h : Nat} (i : isH g h) (z : sm g k S) : isH k h := ⟨i.1, by rw [z.N]; exact i.2⟩
set_option maxHeartbeats 4000000 in
set_option maxRecDepth 100000 in
theorem c_Ch_loosen (l : Launch) (q : ev_T) {h : Nat} {g : mu_T} (hH : isH g h) : Ctr l q M_Ch_loosen 0 [.ref h] (0, 0, g) (fun v w => v = none ∧ w.2.2 = xI (xI (xI g h 0 (-1)) h 1 (-1)) h 2 0) := by
  obtain ⟨hkh, hah⟩ := hH
  refine Ctr.mk (lb := [some (.ref h)]) (by decide +kernel) (Nat.le_of_ble_eq_true rfl) rfl rfl ?_
  intro p e s m args below meth c X hrt hlk hnm
  refine v_aload_n X (dk D_Ch_loosen 0 rfl) rfl ?_
  refine v_iconst (v := -1) X (dk D_Ch_loosen 1 rfl) (by decide) ?_
  refine v_putI X (dk D_Ch_loosen 2 rfl) F_Ch_7 CK_Ch rfl hkh hah rfl rfl ?_
  refine v_aload_n X (dk D_Ch_loosen 3 rfl) rfl ?_
  refine v_iconst (v := -1) X (dk D_Ch_loosen 4 rfl) (by decide) ?_
  refine v_putI X (dk D_Ch_loosen 5 rfl) F_Ch_13 CK_Ch rfl hkh hah rfl rfl ?_
  refine v_aload_n X (dk D_Ch_loosen 6 rfl) rfl ?_
  refine v_iconst (v := 0) X (dk D_Ch_loosen 7 rfl) (by decide) ?_
  refine v_putI X (dk D_Ch_loosen 8 rfl) F_Ch_16 CK_Ch rfl hkh hah rfl rfl ?_
  exact v_vret X hlk hrt (dk D_Ch_loosen 9 rfl) ⟨rfl, rfl⟩
set_option maxHeartbeats 4000000 in
set_option maxRecDepth 100000 in
theorem c_Ce_forget (l : Launch) (q : ev_T) {c rb rn N : Nat} {g : mu_T} (hC : isC g c rb rn N) : Ctr l q M_Ce_forget 0 [.ref c] (0, 0, g) (fun v w => v = none ∧ w.2.2 = xI (xI (xI g c 2 0) c 3 (-1)) c 4 0) := by
  obtain ⟨hkc, hac, hFb, hFn, hkb, hab, hkn, han, hN⟩ := hC
  refine Ctr.mk (lb := [some (.ref c)]) (by decide +kernel) (Nat.le_of_ble_eq_true rfl) rfl rfl ?_
  intro p e s m args below meth c X hrt hlk hnm
  refine v_aload_n X (dk D_Ce_forget 0 rfl) rfl ?_
  refine v_iconst (v := 0) X (dk D_Ce_forget 1 rfl) (by decide) ?_
  refine v_putI X (dk D_Ce_forget 2 rfl) F_Ce_27 CK_Ce rfl hkc hac rfl rfl ?_
  refine v_aload_n X (dk D_Ce_forget 3 rfl) rfl ?_
  refine v_iconst (v := -1) X (dk D_Ce_forget 4 rfl) (by decide) ?_
  refine v_putI X (dk D_Ce_forget 5 rfl) F_Ce_7 CK_Ce rfl hkc hac rfl rfl ?_
  refine v_aload_n X (dk D_Ce_forget 6 rfl) rfl ?_
  refine v_iconst (v := 0) X (dk D_Ce_forget 7 rfl) (by decide) ?_
  refine v_putI X (dk D_Ce_forget 8 rfl) F_Ce_30 CK_Ce rfl hkc hac rfl rfl ?_
  exact v_vret X hlk hrt (dk D_Ce_forget 9 rfl) ⟨rfl, rfl⟩
set_option maxHeartbeats 4000000 in
set_option maxRecDepth 100000 in
theorem c_Ce_isCell (l : Launch) (q : ev_T) {c rb rn N : Nat} {i : Int32} {g : mu_T} (hC : isC g c rb rn N) : Ctr l q M_Ce_isCell 0 [.ref c, .int i] (0, 0, g) (fun v w => v = some (.int (if ¬ i < 0 ∧ ¬ nI N ≤ i then 1 else 0)) ∧ w.2.2 = g) := by
  obtain ⟨hkc, hac, hFb, hFn, hkb, hab, hkn, han, hN⟩ := hC
  refine Ctr.mk (lb := [some (.ref c), some (.int i)]) (by decide +kernel) (Nat.le_of_ble_eq_true rfl) rfl rfl ?_
  intro p e s m args below meth c X hrt hlk hnm
  refine v_iload_n X (dk D_Ce_isCell 0 rfl) rfl ?_
  refine v_if_lt (tgt := 26) X (dk D_Ce_isCell 1 rfl) (by decide) (fun c1 => ?_) (fun c1 => ?_)
  · refine v_iconst (v := 0) X (dk D_Ce_isCell 14 rfl) (by decide) ?_
    exact v_zret X hlk hrt rfl (dk D_Ce_isCell 15 rfl) ⟨by rw [if_neg (fun z => z.1 c1)], rfl⟩
  · refine v_iload_n X (dk D_Ce_isCell 2 rfl) rfl ?_
    refine v_aload_n X (dk D_Ce_isCell 3 rfl) rfl ?_
    refine v_getF X (dk D_Ce_isCell 4 rfl) F_Ce_19 rfl hkc hac hFb ?_
    refine v_alen (v := nI _) X (dk D_Ce_isCell 5 rfl) hkb rfl hab rfl ?_
    refine v_icmp_ge (tgt := 26) X (dk D_Ce_isCell 6 rfl) (by decide) (fun c10 => ?_) (fun c10 => ?_)
    · refine v_iconst (v := 0) X (dk D_Ce_isCell 14 rfl) (by decide) ?_
      exact v_zret X hlk hrt rfl (dk D_Ce_isCell 15 rfl) ⟨by rw [if_neg (fun z => z.2 c10)], rfl⟩
    · refine v_iload_n X (dk D_Ce_isCell 7 rfl) rfl ?_
      refine v_aload_n X (dk D_Ce_isCell 8 rfl) rfl ?_
      refine v_getF X (dk D_Ce_isCell 9 rfl) F_Ce_23 rfl hkc hac hFn ?_
      refine v_alen (v := nI _) X (dk D_Ce_isCell 10 rfl) hkn rfl han rfl ?_
      refine v_icmp_ge (tgt := 26) X (dk D_Ce_isCell 11 rfl) (by decide) (fun c19 => ?_) (fun c19 => ?_)
      · refine v_iconst (v := 0) X (dk D_Ce_isCell 14 rfl) (by decide) ?_
        exact v_zret X hlk hrt rfl (dk D_Ce_isCell 15 rfl) ⟨by rw [if_neg (fun z => z.2 c19)], rfl⟩
      · refine v_iconst (v := 1) X (dk D_Ce_isCell 12 rfl) (by decide) ?_
        refine v_goto (tgt := 27) X (dk D_Ce_isCell 13 rfl) (by decide) ?_
        exact v_zret X hlk hrt rfl (dk D_Ce_isCell 15 rfl) ⟨by rw [if_pos ⟨c1, c10⟩], rfl⟩
set_option maxHeartbeats 4000000 in
set_option maxRecDepth 100000 in
theorem c_Ce_at (l : Launch) (q : ev_T) {c rb rn N : Nat} {i : Int32} {g : mu_T} (hC : isC g c rb rn N) : Ctr l q M_Ce_at 0 [.ref c, .int i] (0, 0, g) (fun v w => v = some (.int (if ¬ i < 0 ∧ ¬ nI N ≤ i then gI g rb i.toNatClampNeg &&& 255 else -1)) ∧ w.2.2 = g) := by
  obtain ⟨hkc, hac, hFb, hFn, hkb, hab, hkn, han, hN⟩ := hC
  refine Ctr.mk (lb := [some (.ref c), some (.int i)]) (by decide +kernel) (Nat.le_of_ble_eq_true rfl) rfl rfl ?_
  intro p e s m args below meth c X hrt hlk hnm
  refine v_iload_n X (dk D_Ce_at 0 rfl) rfl ?_
  refine v_if_lt (tgt := 26) X (dk D_Ce_at 1 rfl) (by decide) (fun c1 => ?_) (fun c1 => ?_)
  · refine v_iconst (v := -1) X (dk D_Ce_at 14 rfl) (by decide) ?_
    exact v_iret X hlk hrt (dk D_Ce_at 15 rfl) ⟨by rw [if_neg (fun z => z.1 c1)], rfl⟩
  · refine v_iload_n X (dk D_Ce_at 2 rfl) rfl ?_
    refine v_aload_n X (dk D_Ce_at 3 rfl) rfl ?_
    refine v_getF X (dk D_Ce_at 4 rfl) F_Ce_19 rfl hkc hac hFb ?_
    refine v_alen (v := nI _) X (dk D_Ce_at 5 rfl) hkb rfl hab rfl ?_
    refine v_icmp_ge (tgt := 26) X (dk D_Ce_at 6 rfl) (by decide) (fun c10 => ?_) (fun c10 => ?_)
    · refine v_iconst (v := -1) X (dk D_Ce_at 14 rfl) (by decide) ?_
      exact v_iret X hlk hrt (dk D_Ce_at 15 rfl) ⟨by rw [if_neg (fun z => z.2 c10)], rfl⟩
    · refine v_aload_n X (dk D_Ce_at 7 rfl) rfl ?_
      refine v_getF X (dk D_Ce_at 8 rfl) F_Ce_19 rfl hkc hac hFb ?_
      refine v_iload_n X (dk D_Ce_at 9 rfl) rfl ?_
      refine v_bald X (dk D_Ce_at 10 rfl) hkb hab (in_of (by omega) c1 c10) ?_
      refine v_sipush (v := 255) X (dk D_Ce_at 11 rfl) (by decide) ?_
      refine v_iand X (dk D_Ce_at 12 rfl) ?_
      refine v_goto (tgt := 27) X (dk D_Ce_at 13 rfl) (by decide) ?_
      exact v_iret X hlk hrt (dk D_Ce_at 15 rfl) ⟨by rw [if_pos ⟨c1, c10⟩], rfl⟩
set_option maxHeartbeats 4000000 in
set_option maxRecDepth 100000 in
theorem c_Ce_behind (l : Launch) (q : ev_T) {c rb rn N : Nat} {i : Int32} {g : mu_T} (hC : isC g c rb rn N) : Ctr l q M_Ce_behind 0 [.ref c, .int i] (0, 0, g) (fun v w => v = some (.int (if ¬ i < 0 ∧ ¬ nI N ≤ i then gI g rn i.toNatClampNeg else -1)) ∧ w.2.2 = g) := by
  obtain ⟨hkc, hac, hFb, hFn, hkb, hab, hkn, han, hN⟩ := hC
  refine Ctr.mk (lb := [some (.ref c), some (.int i)]) (by decide +kernel) (Nat.le_of_ble_eq_true rfl) rfl rfl ?_
  intro p e s m args below meth c X hrt hlk hnm
  refine v_iload_n X (dk D_Ce_behind 0 rfl) rfl ?_
  refine v_if_lt (tgt := 22) X (dk D_Ce_behind 1 rfl) (by decide) (fun c1 => ?_) (fun c1 => ?_)
  · refine v_iconst (v := -1) X (dk D_Ce_behind 12 rfl) (by decide) ?_
    exact v_iret X hlk hrt (dk D_Ce_behind 13 rfl) ⟨by rw [if_neg (fun z => z.1 c1)], rfl⟩
  · refine v_iload_n X (dk D_Ce_behind 2 rfl) rfl ?_
    refine v_aload_n X (dk D_Ce_behind 3 rfl) rfl ?_
    refine v_getF X (dk D_Ce_behind 4 rfl) F_Ce_23 rfl hkc hac hFn ?_
    refine v_alen (v := nI _) X (dk D_Ce_behind 5 rfl) hkn rfl han rfl ?_
    refine v_icmp_ge (tgt := 22) X (dk D_Ce_behind 6 rfl) (by decide) (fun c10 => ?_) (fun c10 => ?_)
    · refine v_iconst (v := -1) X (dk D_Ce_behind 12 rfl) (by decide) ?_
      exact v_iret X hlk hrt (dk D_Ce_behind 13 rfl) ⟨by rw [if_neg (fun z => z.2 c10)], rfl⟩
    · refine v_aload_n X (dk D_Ce_behind 7 rfl) rfl ?_
      refine v_getF X (dk D_Ce_behind 8 rfl) F_Ce_23 rfl hkc hac hFn ?_
      refine v_iload_n X (dk D_Ce_behind 9 rfl) rfl ?_
      refine v_iald X (dk D_Ce_behind 10 rfl) hkn han (in_of (by omega) c1 c10) ?_
      refine v_goto (tgt := 23) X (dk D_Ce_behind 11 rfl) (by decide) ?_
      exact v_iret X hlk hrt (dk D_Ce_behind 13 rfl) ⟨by rw [if_pos ⟨c1, c10⟩], rfl⟩
set_option maxHeartbeats 4000000 in
set_option maxRecDepth 100000 in
theorem c_Ce_hang (l : Launch) (q : ev_T) {c rb rn N h p : Nat} {x y z : Int32} {g : mu_T} (hC : isC g c rb rn N) (hH : isH g h) (hl : gI g h 1 = nI p) (hp : p < N) : Ctr l q M_Ce_hang 0 [.ref c, .ref h, .int x, .int y, .int z] (0, 0, g) (fun v w => v = none ∧ w.2.2 = xI (xI (xI g rn p x) h 1 y) h 2 (gI (xI (xI g rn p x) h 1 y) h 2 + z)) := by
  obtain ⟨hkc, hac, hFb, hFn, hkb, hab, hkn, han, hN⟩ := hC
  obtain ⟨hkh, hah⟩ := hH
  have hne : rn ≠ h := fun e => by rw [e, hkh] at hkn; cases hkn
  refine Ctr.mk (lb := [some (.ref c), some (.ref h), some (.int x), some (.int y), some (.int z)]) (by decide +kernel) (Nat.le_of_ble_eq_true rfl) rfl rfl ?_
  intro p e s m args below meth c X hrt hlk hnm
  refine v_aload_n X (dk D_Ce_hang 0 rfl) rfl ?_
  refine v_getI X (dk D_Ce_hang 1 rfl) F_Ce_47 rfl hkh hah ?_
  refine v_if_lt (tgt := 32) X (dk D_Ce_hang 2 rfl) (by decide) (fun c4 => absurd c4 (by rw [hl]; exact nI_pos (by omega))) (fun _ => ?_)
  refine v_aload_n X (dk D_Ce_hang 3 rfl) rfl ?_
  refine v_getI X (dk D_Ce_hang 4 rfl) F_Ce_47 rfl hkh hah ?_
  refine v_aload_n X (dk D_Ce_hang 5 rfl) rfl ?_
  refine v_getF X (dk D_Ce_hang 6 rfl) F_Ce_23 rfl hkc hac hFn ?_
  refine v_alen (v := nI _) X (dk D_Ce_hang 7 rfl) hkn rfl han rfl ?_
  refine v_icmp_ge (tgt := 32) X (dk D_Ce_hang 8 rfl) (by decide) (fun c16 => absurd c16 (by rw [hl]; exact nI_ge hp (by omega))) (fun _ => ?_)
  refine v_aload_n X (dk D_Ce_hang 9 rfl) rfl ?_
  refine v_getF X (dk D_Ce_hang 10 rfl) F_Ce_23 rfl hkc hac hFn ?_
  refine v_aload_n X (dk D_Ce_hang 11 rfl) rfl ?_
  refine v_getI X (dk D_Ce_hang 12 rfl) F_Ce_47 rfl hkh hah ?_
  refine v_iload_n X (dk D_Ce_hang 13 rfl) rfl ?_
  refine v_iast X (dk D_Ce_hang 14 rfl) hkn han (by rw [hl]; exact vp_in_nI hp (by omega)) ?_
  refine v_goto (tgt := 37) X (dk D_Ce_hang 15 rfl) (by decide) ?_
  refine v_aload_n X (dk D_Ce_hang 19 rfl) rfl ?_
  refine v_iload_n X (dk D_Ce_hang 20 rfl) rfl ?_
  refine v_putI X (dk D_Ce_hang 21 rfl) F_Ce_47 CK_Ch rfl hkh hah rfl rfl ?_
  refine v_aload_n X (dk D_Ce_hang 22 rfl) rfl ?_
  refine v_dup X (dk D_Ce_hang 23 rfl) rfl ?_
  refine v_getI X (dk D_Ce_hang 24 rfl) F_Ce_55 rfl hkh hah ?_
  refine v_iload X (dk D_Ce_hang 25 rfl) rfl ?_
  refine v_iadd X (dk D_Ce_hang 26 rfl) ?_
  refine v_putI X (dk D_Ce_hang 27 rfl) F_Ce_55 CK_Ch rfl hkh hah rfl rfl ?_
  exact v_vret X hlk hrt (dk D_Ce_hang 28 rfl) ⟨rfl, by rw [hl, nI_clamp (by omega)]⟩
set_option maxHeartbeats 4000000 in
set_option maxRecDepth 100000 in
theorem c_Ce_hang0 (l : Launch) (q : ev_T) {c rb rn N h : Nat} {x y z : Int32} {g : mu_T} (hC : isC g c rb rn N) (hH : isH g h) (hl : gI g h 1 = -1) : Ctr l q M_Ce_hang 0 [.ref c, .ref h, .int x, .int y, .int z] (0, 0, g) (fun v w => v = none ∧ w.2.2 = xI (xI (xI g h 0 x) h 1 y) h 2 (gI (xI (xI g h 0 x) h 1 y) h 2 + z)) := by
  obtain ⟨hkc, hac, hFb, hFn, hkb, hab, hkn, han, hN⟩ := hC
  obtain ⟨hkh, hah⟩ := hH
  refine Ctr.mk (lb := [some (.ref c), some (.ref h), some (.int x), some (.int y), some (.int z)]) (by decide +kernel) (Nat.le_of_ble_eq_true rfl) rfl rfl ?_
  intro p e s m args below meth c X hrt hlk hnm
  refine v_aload_n X (dk D_Ce_hang 0 rfl) rfl ?_
  refine v_getI X (dk D_Ce_hang 1 rfl) F_Ce_47 rfl hkh hah ?_
  refine v_if_lt (tgt := 32) X (dk D_Ce_hang 2 rfl) (by decide) (fun _ => ?_) (fun c4 => absurd (by rw [hl]; decide) c4)
  refine v_aload_n X (dk D_Ce_hang 16 rfl) rfl ?_
  refine v_iload_n X (dk D_Ce_hang 17 rfl) rfl ?_
  refine v_putI X (dk D_Ce_hang 18 rfl) F_Ce_52 CK_Ch rfl hkh hah rfl rfl ?_
  refine v_aload_n X (dk D_Ce_hang 19 rfl) rfl ?_
  refine v_iload_n X (dk D_Ce_hang 20 rfl) rfl ?_
  refine v_putI X (dk D_Ce_hang 21 rfl) F_Ce_47 CK_Ch rfl hkh hah rfl rfl ?_
  refine v_aload_n X (dk D_Ce_hang 22 rfl) rfl ?_
  refine v_dup X (dk D_Ce_hang 23 rfl) rfl ?_
  refine v_getI X (dk D_Ce_hang 24 rfl) F_Ce_55 rfl hkh hah ?_
  refine v_iload X (dk D_Ce_hang 25 rfl) rfl ?_
  refine v_iadd X (dk D_Ce_hang 26 rfl) ?_
  refine v_putI X (dk D_Ce_hang 27 rfl) F_Ce_55 CK_Ch rfl hkh hah rfl rfl ?_
  exact v_vret X hlk hrt (dk D_Ce_hang 28 rfl) ⟨rfl, rfl⟩
