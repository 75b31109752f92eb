/-! Meanings: forget -/
/-- the row of all meanings -/
def MR (g : mu_T) : Prop := ∀ i, i < 317 → gR g 30 i = some (31 + 3 * i)
theorem MR.sm {g k : mu_T} {S : List Nat} (h : MR g) (z : sm g k S) (h9 : 30 ∉ S) : MR k := fun i hi => by rw [z.R h9]; exact h i hi
theorem MA_30 : 30 ∉ MA := by rw [MA_mem]; omega
def dwn : Nat → List Nat
  | 0 => []
  | j + 1 => j :: dwn j
theorem dwn_mem : ∀ {n i : Nat}, i ∈ dwn n ↔ i < n
  | 0, _ => ⟨fun h => absurd h List.not_mem_nil, fun h => by omega⟩
  | n + 1, i => by
    rw [dwn, List.mem_cons, dwn_mem]; omega
theorem dwn_nd : ∀ (n : Nat), (dwn n).Nodup
  | 0 => List.nodup_nil
  | n + 1 => List.nodup_cons.mpr ⟨fun h => by rw [dwn_mem] at h; omega, dwn_nd n⟩
def lz (u : mu_T) (h : Nat) : Prop := gI u h 0 = -1 ∧ gI u h 1 = -1 ∧ gI u h 2 = 0
theorem lz.sm {u w : mu_T} {h : Nat} {S : List Nat} (x : lz u h) (z : sm u w S) (hh : h ∉ S) : lz w h := by
  obtain ⟨a, b, c⟩ := x
  exact ⟨by rw [z.I hh]; exact a, by rw [z.I hh]; exact b, by rw [z.I hh]; exact c⟩
/-- forgotten up to meaning j -/
def FG (u : mu_T) (j : Nat) : Prop := gI u 25 1 = nI 0 ∧ gI u 25 2 = nI 0 ∧ gI u 26 2 = 0 ∧ gI u 26 3 = -1 ∧ gI u 26 4 = 0 ∧ (∀ k, k < 128 → gR u 29 k = none) ∧ (∀ x, x < j → lz u (32 + 3 * x) ∧ lz u (33 + 3 * x)) ∧ rlk (fun a => gR u a 4) (dwn j) (gR u 25 5)
theorem FG_step {u w1 w2 : mu_T} {j : Nat} (h : FG u j) (hj : j < 317) (z1 : sm u w1 [32 + 3 * j]) (k1 : lz w1 (32 + 3 * j)) (z2 : sm w1 w2 [33 + 3 * j]) (k2 : lz w2 (33 + 3 * j)) : FG (xR (xR w2 (31 + 3 * j) 4 (gR w2 25 5)) 25 5 (some (31 + 3 * j))) (j + 1) := by
  obtain ⟨h1, h2, h3, h4, h5, h6, h7, h8⟩ := h
  have z : sm u w2 [32 + 3 * j, 33 + 3 * j] := z1.tr z2 (by simp) (by simp)
  have zI : ∀ a b, gI (xR (xR w2 (31 + 3 * j) 4 (gR w2 25 5)) 25 5 (some (31 + 3 * j))) a b = gI w2 a b := fun _ _ => rfl
  have o4 : ∀ x, x < j → gR (xR (xR w2 (31 + 3 * j) 4 (gR w2 25 5)) 25 5 (some (31 + 3 * j))) (31 + 3 * x) 4 = gR u (31 + 3 * x) 4 := fun x hx => by
    rw [xRs (Or.inl (by omega)), xRs (Or.inl (by omega)), z.R (by simp; omega)]
  refine ⟨by rw [zI, z.I (by simp; omega)]; exact h1, by rw [zI, z.I (by simp; omega)]; exact h2, by rw [zI, z.I (by simp; omega)]; exact h3, by rw [zI, z.I (by simp; omega)]; exact h4, by rw [zI, z.I (by simp; omega)]; exact h5, fun k hk => ?_, fun x hx => ?_, gR_eq _ _ _ _, ?_⟩
  · rw [xRs (Or.inl (by decide)), xRs (Or.inl (by omega)), z.R (by simp; omega)]; exact h6 k hk
  · by_cases e : x = j
    · subst e
      show lz w2 _ ∧ lz w2 _
      exact ⟨k1.sm z2 (by first | (simp; done) | (simp; omega)), k2⟩
    · show lz w2 _ ∧ lz w2 _
      exact ⟨(h7 x (by omega)).1.sm z (by simp; omega), (h7 x (by omega)).2.sm z (by simp; omega)⟩
  · show rlk _ (dwn j) (gR _ (31 + 3 * j) 4)
    rw [xRs (Or.inl (by omega)), gR_eq]
    exact rlk_same (nx := fun a => gR u a 4) (fun x hx => o4 x (dwn_mem.mp hx)) (by rw [z.R (by simp; omega)]; exact h8)
/-- no meanings at all -/
def MZ (g : mu_T) : Prop := ∃ B, MS g (fun _ => []) (dwn 317) (fun _ => []) (fun _ => []) B 0 0
theorem FG_end {u : mu_T} (hS : Shp u) (h : FG u 317) : MZ u := by
  obtain ⟨h1, h2, h3, h4, h5, h6, h7, h8⟩ := h
  have htot : tot SM (fun _ => []) = 0 := by rw [show tot SM (fun _ => []) = byM (fun _ => []) (fun _ => []) from tot_SM (g := u) (fun i _ => ⟨rfl, rfl⟩), byM]; exact (sumN_const (f := fun _ => ([] : List Int32).length + ([] : List Int32).length) (c := 0) (fun _ _ _ => rfl)).trans rfl
  have h5t : gI u 26 4 = nI (tot SM (fun _ => [])) := by rw [htot]; exact h5
  have hW : CW u 26 27 28 16512 SM (fun _ => []) [] 0 := by
    refine ⟨isC_M hS, SM_nd, fun hx => ?_, fun j hj => ?_, h3, h4, h5t, by decide, ?_, fun p hp => absurd hp List.not_mem_nil, List.nodup_nil, fun j hj => ⟨List.nodup_nil, fun p hp => absurd hp List.not_mem_nil⟩, fun j hj i hi p hp => absurd hp List.not_mem_nil⟩
    · obtain ⟨y, hy, e⟩ := SM_of hx; omega
    · obtain ⟨y, hy, e⟩ := SM_of hj
      rcases e with rfl | rfl
      · obtain ⟨a, b, c⟩ := (h7 y hy).1
        exact CH.nil ⟨(kdM y hy).2.1, hS.lt (by omega)⟩ a b c
      · obtain ⟨a, b, c⟩ := (h7 y hy).2
        exact CH.nil ⟨(kdM y hy).2.2, hS.lt (by omega)⟩ a b c
    · rw [htot]; rfl
  exact ⟨fun i => gR u (31 + 3 * i) 2, h1, h2, ⟨_, _, _, hW, fun i hi => ⟨rfl, rfl⟩⟩, fun k hk => h6 k hk, h8, fun k hk i hi => absurd hi List.not_mem_nil, fun i hi => rfl, fun i hi => ⟨dwn_mem.mp hi, rfl, rfl⟩, fun k hk => ⟨List.nodup_nil, fun i hi => absurd hi List.not_mem_nil⟩, dwn_nd 317, fun i hi => ⟨fun x hx => absurd hx List.not_mem_nil, fun x hx => absurd hx List.not_mem_nil⟩⟩

set_option maxHeartbeats 4000000 in
set_option maxRecDepth 100000 in
theorem k_forgetM (l : Launch) (q : ev_T) {g : mu_T} (hS : Shp g) (hR : MR g) : Ctr l q M_Ms_forget 1 [.ref 25] (0, 0, g) (fun v w => v = none ∧ sm g w.2.2 MA ∧ MZ w.2.2) := by
  have zf : sm g (xI (xI (xI (xI (xI g 26 2 0) 26 3 (-1)) 26 4 0) 25 1 (nI 0)) 25 2 (nI 0)) MA := (((((sm.rf g _).xI (MA_mem.mpr (by omega))).xI (MA_mem.mpr (by omega))).xI (MA_mem.mpr (by omega))).xI (MA_mem.mpr (by omega))).xI (MA_mem.mpr (by omega))
  refine Ctr.mk (lb := [some (.ref 25), none, none]) (by decide +kernel) (Nat.le_of_ble_eq_true rfl) rfl rfl ?_
  intro pp ee ss mm aa bb mt cd X hrt hlk hnm
  have loop2 : ∀ (d j : Nat) (u : mu_T), j + d = 317 → sm g u MA → Shp u → MR u → FG u j → Vv pp l ee (rmT 1 0 0) ss mm aa bb mt cd 3 q (MQ bb (Qw q (fun v w => v = none ∧ sm g w.2.2 MA ∧ MZ w.2.2)) aa ss 0 0 (fun a => q.1 ≤ a)) 48 [some (.ref 25), some (.int (nI j)), none] [] (0, 0, u) := by
    intro d
    induction d with
    | zero =>
      intro j u hjd zu hSu hRu hF
      refine v_iload_n X (dk D_Ms_forget 28 rfl) rfl ?_
      refine v_aload_n X (dk D_Ms_forget 29 rfl) rfl ?_
      refine v_getF X (dk D_Ms_forget 30 rfl) F_Ms_30 rfl rfl (hSu.lt (by decide)) (hSu.2 25 4) ?_
      refine v_alen (v := nI _) X (dk D_Ms_forget 31 rfl) rfl rfl (hSu.lt (by decide)) rfl ?_
      refine v_icmp_ge (tgt := 97) X (dk D_Ms_forget 32 rfl) (by decide) (fun _ => ?_) (fun c54 => absurd (nI_le (a := 317) (by omega) (by omega)) c54)
      exact v_vret X hlk hrt (dk D_Ms_forget 53 rfl) ⟨rfl, zu, FG_end hSu (by rw [show 317 = j by omega]; exact hF)⟩
    | succ d ih =>
      intro j u hjd zu hSu hRu hF
      have hj : j < 317 := by omega
      obtain ⟨g1, g2, g3, g4⟩ := loosen_facts u (32 + 3 * j)
      obtain ⟨p1, p2, p3, p4⟩ := loosen_facts (xI (xI (xI u (32 + 3 * j) 0 (-1)) (32 + 3 * j) 1 (-1)) (32 + 3 * j) 2 0) (33 + 3 * j)
      have zz : sm (xI (xI (xI (xI (xI (xI u (32 + 3 * j) 0 (-1)) (32 + 3 * j) 1 (-1)) (32 + 3 * j) 2 0) (33 + 3 * j) 0 (-1)) (33 + 3 * j) 1 (-1)) (33 + 3 * j) 2 0) (xR (xR (xI (xI (xI (xI (xI (xI u (32 + 3 * j) 0 (-1)) (32 + 3 * j) 1 (-1)) (32 + 3 * j) 2 0) (33 + 3 * j) 0 (-1)) (33 + 3 * j) 1 (-1)) (33 + 3 * j) 2 0) (31 + 3 * j) 4 (gR (xI (xI (xI (xI (xI (xI u (32 + 3 * j) 0 (-1)) (32 + 3 * j) 1 (-1)) (32 + 3 * j) 2 0) (33 + 3 * j) 0 (-1)) (33 + 3 * j) 1 (-1)) (33 + 3 * j) 2 0) 25 5)) 25 5 (some (31 + 3 * j))) [(31 + 3 * j), 25] := ((sm.rf _ _).xR (by simp)).xR (by simp)
      refine v_iload_n X (dk D_Ms_forget 28 rfl) rfl ?_
      refine v_aload_n X (dk D_Ms_forget 29 rfl) rfl ?_
      refine v_getF X (dk D_Ms_forget 30 rfl) F_Ms_30 rfl rfl (hSu.lt (by decide)) (hSu.2 25 4) ?_
      refine v_alen (v := nI _) X (dk D_Ms_forget 31 rfl) rfl rfl (hSu.lt (by decide)) rfl ?_
      refine v_icmp_ge (tgt := 97) X (dk D_Ms_forget 32 rfl) (by decide) (fun c54 => absurd c54 (nI_ge (b := 317) (by omega) (by omega))) (fun _ => ?_)
      refine v_aload_n X (dk D_Ms_forget 33 rfl) rfl ?_
      refine v_getF X (dk D_Ms_forget 34 rfl) F_Ms_30 rfl rfl (hSu.lt (by decide)) (hSu.2 25 4) ?_
      refine v_iload_n X (dk D_Ms_forget 35 rfl) rfl ?_
      refine v_aaldR (b := (31 + 3 * j)) X (dk D_Ms_forget 36 rfl) rfl rfl (by decide) (hSu.lt (by decide)) (vp_in_nI (show j < 317 by omega) (by decide)) (by rw [nI_clamp (by omega)]; exact hRu j (by omega)) ?_
      refine v_astore_n (lb := [some (.ref 25), some (.int (nI j)), some (.ref (31 + 3 * j))]) X (dk D_Ms_forget 37 rfl) (by decide) rfl ?_
      refine v_aload_n X (dk D_Ms_forget 38 rfl) rfl ?_
      refine v_getF X (dk D_Ms_forget 39 rfl) F_Ms_48 rfl (kdM j hj).1 (hSu.lt (by omega)) ((hSu.2 _ 0).trans (fRM hj).1) ?_
      refine v_invV (As := []) (st := []) X (c_Ch_loosen l q (h := (32 + 3 * j)) ⟨(kdM j hj).2.1, hSu.lt (by omega)⟩) (dk D_Ms_forget 40 rfl) G_Ms_52 K_Ch_loosen V_Ch_loosen (kdM j hj).2.1 rfl (hSu.lt (by omega)) rfl rfl (Nat.le_of_ble_eq_true rfl) (Nat.le_of_ble_eq_true rfl) (Nat.le_of_ble_eq_true rfl) (Nat.le_of_ble_eq_true rfl) (Nat.le_of_ble_eq_true rfl) ?_
      rintro v w ⟨rfl, hw⟩
      rw [hw]
      show Vv _ _ _ _ _ _ _ _ _ _ _ _ _ _ _ [] (0, 0, (xI (xI (xI u (32 + 3 * j) 0 (-1)) (32 + 3 * j) 1 (-1)) (32 + 3 * j) 2 0))
      refine v_aload_n X (dk D_Ms_forget 41 rfl) rfl ?_
      refine v_getF X (dk D_Ms_forget 42 rfl) F_Ms_57 rfl (kdM j hj).1 (hSu.lt (by omega)) ((hSu.2 _ 1).trans (fRM hj).2) ?_
      refine v_invV (As := []) (st := []) X (c_Ch_loosen l q (h := (33 + 3 * j)) ⟨(kdM j hj).2.2, hSu.lt (by omega)⟩) (dk D_Ms_forget 43 rfl) G_Ms_52 K_Ch_loosen V_Ch_loosen (kdM j hj).2.2 rfl (hSu.lt (by omega)) rfl rfl (Nat.le_of_ble_eq_true rfl) (Nat.le_of_ble_eq_true rfl) (Nat.le_of_ble_eq_true rfl) (Nat.le_of_ble_eq_true rfl) (Nat.le_of_ble_eq_true rfl) ?_
      rintro v w ⟨rfl, hw⟩
      rw [hw]
      show Vv _ _ _ _ _ _ _ _ _ _ _ _ _ _ _ [] (0, 0, (xI (xI (xI (xI (xI (xI u (32 + 3 * j) 0 (-1)) (32 + 3 * j) 1 (-1)) (32 + 3 * j) 2 0) (33 + 3 * j) 0 (-1)) (33 + 3 * j) 1 (-1)) (33 + 3 * j) 2 0))
      refine v_aload_n X (dk D_Ms_forget 44 rfl) rfl ?_
      refine v_aload_n X (dk D_Ms_forget 45 rfl) rfl ?_
      refine v_getR X (dk D_Ms_forget 46 rfl) F_Ms_44 rfl rfl (hSu.lt (by decide)) rfl ?_
      refine v_putR (r := gR (xI (xI (xI (xI (xI (xI u (32 + 3 * j) 0 (-1)) (32 + 3 * j) 1 (-1)) (32 + 3 * j) 2 0) (33 + 3 * j) 0 (-1)) (33 + 3 * j) 1 (-1)) (33 + 3 * j) 2 0) 25 5) X (dk D_Ms_forget 47 rfl) F_Ms_60 CK_Me rfl (kdM j hj).1 (hSu.lt (by omega)) ⟨_, rfl⟩ ?_
      refine v_aload_n X (dk D_Ms_forget 48 rfl) rfl ?_
      refine v_aload_n X (dk D_Ms_forget 49 rfl) rfl ?_
      refine v_putR (r := some (31 + 3 * j)) X (dk D_Ms_forget 50 rfl) F_Ms_44 CK_Ms rfl rfl (hSu.lt (by decide)) ⟨_, rfl⟩ ?_
      refine v_iinc (lb := [some (.ref 25), some (.int _), some (.ref (31 + 3 * j))]) X (dk D_Ms_forget 51 rfl) rfl (nI_1 j) (by decide) rfl ?_
      refine v_goto (tgt := 48) X (dk D_Ms_forget 52 rfl) (by decide) ?_
      exact v_weak (la := [some (.ref 25), some (.int (nI (j + 1))), none]) ⟨rfl, rfl, trivial⟩ (ih (j + 1) _ (by omega) ((((zu.tr g1 (U := MA) (fun _ h => h) (fun a ha => MA_mem.mpr (by simp at ha; omega))).tr p1 (U := MA) (fun _ h => h) (fun a ha => MA_mem.mpr (by simp at ha; omega))).xR (MA_mem.mpr (by omega))).xR (MA_mem.mpr (by omega))) (((hSu.sm g1).sm p1).sm zz) (((hRu.sm g1 (by simp; omega)).sm p1 (by simp; omega)).sm zz (by simp; omega)) (FG_step hF hj g1 ⟨g2, g3, g4⟩ p1 ⟨p2, p3, p4⟩))
  have loop1 : ∀ (d j : Nat) (u : mu_T), j + d = 128 → sm g u MA → Shp u → MR u → gI u 25 1 = nI 0 → gI u 25 2 = nI 0 → gI u 26 2 = 0 → gI u 26 3 = -1 → gI u 26 4 = 0 → (∀ k, k < j → gR u 29 k = none) → Vv pp l ee (rmT 1 0 0) ss mm aa bb mt cd 3 q (MQ bb (Qw q (fun v w => v = none ∧ sm g w.2.2 MA ∧ MZ w.2.2)) aa ss 0 0 (fun a => q.1 ≤ a)) 19 [some (.ref 25), some (.int (nI j)), none] [] (0, 0, u) := by
    intro d
    induction d with
    | zero =>
      intro j u hjd zu hSu hRu f1 f2 f3 f4 f5 hb
      have z0 : sm u (xR u 25 5 none) [25] := (sm.rf _ _).xR (by simp)
      refine v_iload_n X (dk D_Ms_forget 11 rfl) rfl ?_
      refine v_aload_n X (dk D_Ms_forget 12 rfl) rfl ?_
      refine v_getF X (dk D_Ms_forget 13 rfl) F_Ms_22 rfl rfl (hSu.lt (by decide)) (hSu.2 25 3) ?_
      refine v_alen (v := nI _) X (dk D_Ms_forget 14 rfl) rfl rfl (hSu.lt (by decide)) rfl ?_
      refine v_icmp_ge (tgt := 41) X (dk D_Ms_forget 15 rfl) (by decide) (fun _ => ?_) (fun c25 => absurd (nI_le (a := 128) (by omega) (by omega)) c25)
      refine v_aload_n X (dk D_Ms_forget 23 rfl) rfl ?_
      refine v_null X (dk D_Ms_forget 24 rfl) ?_
      refine v_putR (r := none) X (dk D_Ms_forget 25 rfl) F_Ms_44 CK_Ms rfl rfl (hSu.lt (by decide)) ⟨_, rfl⟩ ?_
      refine v_iconst (v := nI 0) X (dk D_Ms_forget 26 rfl) (by decide) ?_
      refine v_istore_n (lb := [some (.ref 25), some (.int (nI 0)), none]) X (dk D_Ms_forget 27 rfl) (by decide) rfl ?_
      exact loop2 317 0 _ (by omega) (zu.xR (MA_mem.mpr (by omega))) (hSu.sm z0) (hRu.sm z0 (by simp)) ⟨f1, f2, f3, f4, f5, fun k hk => (xRs (Or.inl (by decide))).trans (hb k (by omega)), fun x hx => by omega, gR_eq _ _ _ _⟩
    | succ d ih =>
      intro j u hjd zu hSu hRu f1 f2 f3 f4 f5 hb
      have z0 : sm u (xR u 29 j none) [29] := (sm.rf _ _).xR (by simp)
      refine v_iload_n X (dk D_Ms_forget 11 rfl) rfl ?_
      refine v_aload_n X (dk D_Ms_forget 12 rfl) rfl ?_
      refine v_getF X (dk D_Ms_forget 13 rfl) F_Ms_22 rfl rfl (hSu.lt (by decide)) (hSu.2 25 3) ?_
      refine v_alen (v := nI _) X (dk D_Ms_forget 14 rfl) rfl rfl (hSu.lt (by decide)) rfl ?_
      refine v_icmp_ge (tgt := 41) X (dk D_Ms_forget 15 rfl) (by decide) (fun c25 => absurd c25 (nI_ge (b := 128) (by omega) (by omega))) (fun _ => ?_)
      refine v_aload_n X (dk D_Ms_forget 16 rfl) rfl ?_
      refine v_getF X (dk D_Ms_forget 17 rfl) F_Ms_22 rfl rfl (hSu.lt (by decide)) (hSu.2 25 3) ?_
      refine v_iload_n X (dk D_Ms_forget 18 rfl) rfl ?_
      refine v_null X (dk D_Ms_forget 19 rfl) ?_
      refine v_aastN X (dk D_Ms_forget 20 rfl) rfl rfl (by decide) (hSu.lt (by decide)) (vp_in_nI (show j < 128 by omega) (by decide)) ?_
      rw [nI_clamp (by omega)]
      refine v_iinc (lb := [some (.ref 25), some (.int _), none]) X (dk D_Ms_forget 21 rfl) rfl (nI_1 j) (by decide) rfl ?_
      refine v_goto (tgt := 19) X (dk D_Ms_forget 22 rfl) (by decide) ?_
      exact ih (j + 1) _ (by omega) (zu.xR (MA_mem.mpr (by omega))) (hSu.sm z0) (hRu.sm z0 (by simp)) f1 f2 f3 f4 f5 (fun k hk => by by_cases e : k = j; rw [e]; exact gR_eq _ _ _ _; rw [xRs (Or.inr e)]; exact hb k (by omega))
  refine v_aload_n X (dk D_Ms_forget 0 rfl) rfl ?_
  refine v_getF X (dk D_Ms_forget 1 rfl) F_Ms_16 rfl rfl (hS.lt (by decide)) (hS.2 25 0) ?_
  refine v_invV (As := []) (st := []) X (c_Ce_forget l q (isC_M hS)) (dk D_Ms_forget 2 rfl) G_Ms_34 K_Ce_forget V_Ce_forget rfl rfl (hS.lt (by decide)) rfl rfl (Nat.le_of_ble_eq_true rfl) (Nat.le_of_ble_eq_true rfl) (Nat.le_of_ble_eq_true rfl) (Nat.le_of_ble_eq_true rfl) (Nat.le_of_ble_eq_true rfl) ?_
  rintro v w ⟨rfl, hw⟩
  rw [hw]
  show Vv _ _ _ _ _ _ _ _ _ _ _ _ _ _ _ [] (0, 0, xI (xI (xI g 26 2 0) 26 3 (-1)) 26 4 0)
  refine v_aload_n X (dk D_Ms_forget 3 rfl) rfl ?_
  refine v_iconst (v := nI 0) X (dk D_Ms_forget 4 rfl) (by decide) ?_
  refine v_putI X (dk D_Ms_forget 5 rfl) F_Ms_37 CK_Ms rfl rfl (hS.lt (by decide)) rfl rfl ?_
  refine v_aload_n X (dk D_Ms_forget 6 rfl) rfl ?_
  refine v_iconst (v := nI 0) X (dk D_Ms_forget 7 rfl) (by decide) ?_
  refine v_putI X (dk D_Ms_forget 8 rfl) F_Ms_41 CK_Ms rfl rfl (hS.lt (by decide)) rfl rfl ?_
  refine v_iconst (v := nI 0) X (dk D_Ms_forget 9 rfl) (by decide) ?_
  refine v_istore_n (lb := [some (.ref 25), some (.int (nI 0)), none]) X (dk D_Ms_forget 10 rfl) (by decide) rfl ?_
  exact loop1 128 0 _ (by omega) zf (hS.sm zf) (hR.sm zf MA_30) ((gI_nk (by decide)).trans (gI_eq _ _ _ _)) (gI_eq _ _ _ _) (by rw [gI_na (by decide), gI_na (by decide), gI_nk (by decide), gI_nk (by decide), gI_eq]) (by rw [gI_na (by decide), gI_na (by decide), gI_nk (by decide), gI_eq]) (by rw [gI_na (by decide), gI_na (by decide), gI_eq]) (fun k hk => by omega)
/-- with the counts of what is built in -/
def MPx (g : mu_T) (P : Mng) (df db nb bb : Nat) : Prop := ∃ bk sp N T B, MS g bk sp N T B df db ∧ MC sp N T B df db nb bb ∧ ∀ nm k, k < 128 → hsh nm &&& 127 = nI k → P nm = BF bk N T B k nm
theorem MPx.mp {g : mu_T} {P : Mng} {df db nb bb : Nat} (h : MPx g P df db nb bb) (h1 : nb ≤ 17) (h2 : bb ≤ 128) (h3 : df ≤ 300) (h4 : db ≤ 16384) : MP g P df db := by
  obtain ⟨bk, sp, N, T, B, a, b, c⟩ := h
  exact ⟨bk, sp, N, T, B, nb, bb, a, b, h1, h2, h3, h4, c⟩
theorem MZ.mpx {g : mu_T} (h : MZ g) : MPx g (fun _ => []) 0 0 0 0 := by
  obtain ⟨B, h⟩ := h
  have c0 : ∀ i, i < 317 → cl (dwn 317) B i = 0 := fun i hi => by rw [cl, if_pos (dwn_mem.mpr hi)]
  refine ⟨_, _, _, _, B, h, ⟨?_, ?_, ?_, ?_⟩, fun nm k hk hh => rfl⟩
  · exact (sumN_const (c := 0) (fun k _ hk => by show (if cl (dwn 317) B k = 1 then 1 else 0) = 0; rw [c0 k (by omega)]; rfl)).trans rfl
  · exact (sumN_const (c := 0) (fun k _ hk => by show (if cl (dwn 317) B k = 2 then 1 else 0) = 0; rw [c0 k (by omega)]; rfl)).trans rfl
  · exact (sumN_const (c := 0) (fun k _ hk => by show (if cl (dwn 317) B k = 1 then _ else 0) = 0; rw [c0 k (by omega)]; rfl)).trans rfl
  · exact (sumN_const (c := 0) (fun k _ hk => by show (if cl (dwn 317) B k = 2 then _ else 0) = 0; rw [c0 k (by omega)]; rfl)).trans rfl
theorem k_addBuiltInP (l : Launch) (q : ev_T) {P : Mng} {nb bb j : Nat} {b r0 n0 : Nat} {xs : List Int32} {ov : Bool} {g : mu_T} (hS : Shp g) (hP : MPx g P 0 0 nb bb) (hnb : nb < 17) (hbb : bb + xs.length ≤ 128) (hY : RB g b r0 n0 xs ov) (hn0 : n0 < 1073741824) (hb : b < 25) (hr : r0 < 25) (hxb : ∀ x ∈ xs, isByte x) : Ctr l q M_Ms_addBuiltIn 3 [.ref 25, .ref (1048576 + j), .ref b] (0, 0, g) (fun v w => v = none ∧ sm g w.2.2 MA ∧ MPx w.2.2 (pu P xs ((some (1048576 + j), []) :: P xs)) 0 0 (nb + 1) (bb + xs.length)) := by
  obtain ⟨bk, sp, N, T, B, hM, hC, hP⟩ := hP
  obtain ⟨k, hk1, hk2⟩ := and127 (hsh xs)
  obtain ⟨i, sp, rfl⟩ : ∃ i s, sp = i :: s := by
    cases sp with
    | nil => exact absurd rfl (MC_spare hC (by omega) (by omega))
    | cons i s => exact ⟨i, s, rfl⟩
  have hby := MC_by hC (fun j hj => (hM.2.2.2.2.2.2.2.1 j hj).2)
  refine (k_addBuiltIn l q (j := j) hS hM hY hn0 hb hr hxb hk1 hk2 (by omega)).weak fun v w h => ⟨h.1, h.2.1.mono (fun a ha => MA_mem.mpr (by have := (hM.2.2.2.2.2.2.2.1 i (List.mem_cons_self ..)).1; simp [UU] at ha; omega)), ?_⟩
  have hw := h.2.2
  obtain ⟨hi, hN0, hT0⟩ := hM.2.2.2.2.2.2.2.1 i (List.mem_cons_self ..)
  have hs : i ∉ sp := (List.nodup_cons.mp hM.2.2.2.2.2.2.2.2.2.1).1
  have hno : ∀ j, j < 128 → i ∉ bk j := fun j hj h => (hM.2.2.2.2.2.2.2.2.1 j hj).2 i h (List.mem_cons_self ..)
  have c1 : cl sp (va_up B i (some (1048576 + j))) i = 2 := by rw [cl, if_neg hs, up_eq, if_neg (fun e => by cases e)]
  have c0 : cl (i :: sp) B i = 0 := by rw [cl, if_pos (List.mem_cons_self ..)]
  have cj : ∀ x, x ≠ i → cl sp (va_up B i (some (1048576 + j))) x = cl (i :: sp) B x := fun x hx => by
    rw [cl, cl, up_ne hx]
    by_cases h : x ∈ sp
    · rw [if_pos h, if_pos (List.mem_cons_of_mem _ h)]
    · rw [if_neg h, if_neg (show ¬ x ∈ i :: sp from fun y => by rcases List.mem_cons.mp y with y | y; exact hx y; exact h y)]
  refine ⟨_, _, _, _, _, hw, MC_up hC hi cj (fun x hx => up_ne hx) (fun x hx => rfl) ?_ ?_ ?_ ?_, fun nm k' hk' hh => ?_⟩
  · rw [c0, c1]; simp
  · rw [c0, c1]; simp
  · rw [c0, c1]; simp
  · rw [c0, c1, up_eq, hT0]; simp
  have hsame : ∀ x, x ≠ i → (va_up N i xs x = N x ∧ T x = T x ∧ va_up B i (some (1048576 + j)) x = B x) := fun x hx => ⟨up_ne hx, rfl, up_ne hx⟩
  have hrest : ∀ nm, (((bk k).filter (fun x => decide (va_up N i xs x = nm))).map (fun x => (va_up B i (some (1048576 + j)) x, T x))) = BF bk N T B k nm := fun nm => flt_same (fun x hx => hsame x (fun e => hno k hk1 (e ▸ hx)))
  rw [pu]
  by_cases x : nm = xs
  · subst x
    rw [if_pos rfl, hP nm k hk1 hk2]
    rw [hk2] at hh
    rw [← (nI_eq (by omega) (by omega)).mp hh, show BF (va_up bk k (i :: bk k)) (va_up N i nm) T (va_up B i (some (1048576 + j))) k nm = ((va_up bk k (i :: bk k) k).filter (fun x => decide (va_up N i nm x = nm))).map (fun x => (va_up B i (some (1048576 + j)) x, T x)) from rfl, up_eq, List.filter_cons, if_pos (by rw [decide_eq_true_eq]; exact up_eq), List.map_cons, hrest, up_eq, hT0]
  · rw [if_neg x, hP nm k' hk' hh]
    by_cases e : k' = k
    · subst e
      rw [← hrest nm, show BF (va_up bk k' (i :: bk k')) (va_up N i xs) T (va_up B i (some (1048576 + j))) k' nm = ((va_up bk k' (i :: bk k') k').filter (fun x => decide (va_up N i xs x = nm))).map (fun x => (va_up B i (some (1048576 + j)) x, T x)) from rfl, up_eq, List.filter_cons, if_neg (by rw [decide_eq_true_eq, up_eq]; exact fun x2 => x x2.symm)]
    · exact (BF_same (up_ne e) (fun y hy => hsame y (fun x => hno k' hk' (x ▸ hy)))).symm
