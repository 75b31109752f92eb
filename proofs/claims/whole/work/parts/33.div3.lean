/-! Diversions: gather -/
def catX (D : Nat → List Int32) : Nat → List Int32
  | 0 => []
  | i + 1 => catX D i ++ D i
def isByte (x : Int32) : Prop := x.toInt8.toInt32 = x
theorem CH.at {g : mu_T} {rn h : Nat} {ps : List Nat} (c : CH g rn h ps) : (∀ (h0 : 0 < ps.length), gI g h 0 = nI (ps.getD 0 0)) ∧ ∀ k, k + 1 < ps.length → gI g rn (ps.getD k 0) = nI (ps.getD (k + 1) 0) := by
  rcases snoc_or ps with e | ⟨qs, p, e⟩
  · subst e; exact ⟨fun h => absurd h (by simp), fun k hk => absurd hk (by simp)⟩
  · obtain ⟨-, d, hl⟩ := c.2.2.2 qs p e
    obtain ⟨a1, a2⟩ := lkf_at hl
    refine ⟨fun h0 => a1 _ ?_, fun k hk => a2 k _ _ ?_ ?_⟩
    · rw [List.head?_eq_getElem?, List.getD_eq_getElem?_getD, List.getElem?_eq_getElem h0]; rfl
    · rw [List.getD_eq_getElem?_getD, List.getElem?_eq_getElem (by omega)]; rfl
    · rw [List.getD_eq_getElem?_getD, List.getElem?_eq_getElem hk]; rfl
theorem getD_mem' {l : List Nat} {k : Nat} (h : k < l.length) : l.getD k 0 ∈ l := by
  rw [List.getD_eq_getElem?_getD, List.getElem?_eq_getElem h]; exact List.getElem_mem h
theorem getD_mem {l : List Int32} {k : Nat} (h : k < l.length) : l.getD k 0 ∈ l := by
  rw [List.getD_eq_getElem?_getD, List.getElem?_eq_getElem h]; exact List.getElem_mem h
theorem bys_getD {g : mu_T} {rb : Nat} {ps : List Nat} {k : Nat} (h : k < ps.length) : (bys g rb ps).getD k 0 = gI g rb (ps.getD k 0) := by
  simp only [bys, List.getD_eq_getElem?_getD, List.getElem?_map, List.getElem?_eq_getElem h]; rfl
set_option maxHeartbeats 4000000 in
set_option maxRecDepth 100000 in
theorem k_Di_gather (l : Launch) (q : ev_T) {cur : Int32} {D : Nat → List Int32} {xs : List Int32} {ov : Bool} {g : mu_T} (hS : Shp g) (hR : DR g) (hD : DV g cur D) (hB : RB g 3 4 32768 xs ov) (hDb : ∀ i, i < 10 → ∀ x ∈ D i, isByte x) : Ctr l q M_Di_gather 1 [.ref 982, .ref 3] (0, 0, g) (fun v w => v = none ∧ sm g w.2.2 [3, 4] ∧ RB w.2.2 3 4 32768 (adL 32768 (xs, ov) (catX D 10)).1 (adL 32768 (xs, ov) (catX D 10)).2) := by
  obtain ⟨h1, h2, ch, fl, fr, hW, hX⟩ := hD
  refine Ctr.mk (lb := [some (.ref 982), some (.ref 3), none, none, none]) (by decide +kernel) (Nat.le_of_ble_eq_true rfl) rfl rfl ?_
  intro pp ee ss mm aa bb mt cd X hrt hlk hnm
  have outer : ∀ (d i : Nat) (u : mu_T), i + d = 10 → sm g u [3, 4] → RB u 3 4 32768 (adL 32768 (xs, ov) (catX D i)).1 (adL 32768 (xs, ov) (catX D i)).2 → Vv pp l ee (rmT 1 0 0) ss mm aa bb mt cd 5 q (MQ bb (Qw q (fun v w => v = none ∧ sm g w.2.2 [3, 4] ∧ RB w.2.2 3 4 32768 (adL 32768 (xs, ov) (catX D 10)).1 (adL 32768 (xs, ov) (catX D 10)).2)) aa ss 0 0 (fun a => q.1 ≤ a)) 2 [some (.ref 982), some (.ref 3), some (.int (nI i)), none, none] [] (0, 0, u) := by
    intro d
    induction d with
    | zero =>
      intro i u hid hs hRB
      have hSu := hS.sm hs
      refine v_iload_n X (dk D_Di_gather 2 rfl) rfl ?_
      refine v_aload_n X (dk D_Di_gather 3 rfl) rfl ?_
      refine v_getF X (dk D_Di_gather 4 rfl) F_Di_23 rfl rfl (hSu.lt (by decide)) (hSu.2 982 2) ?_
      refine v_alen (v := nI _) X (dk D_Di_gather 5 rfl) rfl rfl (hSu.lt (by decide)) rfl ?_
      refine v_icmp_ge (tgt := 71) X (dk D_Di_gather 6 rfl) (by decide) (fun _ => ?_) (fun c8 => absurd (nI_le (a := 10) (by omega) (by omega)) c8)
      exact v_vret X hlk hrt (dk D_Di_gather 37 rfl) ⟨rfl, hs, by rw [show i = 10 by omega] at hRB; exact hRB⟩
    | succ d ihi =>
      intro i u hid hs hRB
      have hSu := hS.sm hs
      have hRu := hR.sm hs
      have hi : i < 10 := by omega
      have hch := hW.2.2.2.1 _ (SD_mem hi)
      have hlen : (ch (987 + i)).length = (D i).length := by rw [← hX i hi, bys, List.length_map]
      have hb5 := hW.2.2.2.2.2.2.2.1
      have hb6 := hW.2.2.2.2.2.2.2.2.1
      have hll : (D i).length ≤ 32768 := by have t := tot_up (ch := ch) (x := []) hW.2.1 (SD_mem hi); rw [List.length_nil] at t; omega
      have inner : ∀ (e k : Nat) (x : Int32) (u : mu_T), k + e = (D i).length → sm g u [3, 4] → RB u 3 4 32768 (adL 32768 (xs, ov) (catX D i ++ (D i).take k)).1 (adL 32768 (xs, ov) (catX D i ++ (D i).take k)).2 → (k < (ch (987 + i)).length → x = nI ((ch (987 + i)).getD k 0)) → Vv pp l ee (rmT 1 0 0) ss mm aa bb mt cd 5 q (MQ bb (Qw q (fun v w => v = none ∧ sm g w.2.2 [3, 4] ∧ RB w.2.2 3 4 32768 (adL 32768 (xs, ov) (catX D 10)).1 (adL 32768 (xs, ov) (catX D 10)).2)) aa ss 0 0 (fun a => q.1 ≤ a)) 24 [some (.ref 982), some (.ref 3), some (.int (nI i)), some (.int x), some (.int (nI k))] [] (0, 0, u) := by
        intro e
        induction e with
        | zero =>
          intro k x u hke hs hRB hxk
          have hSu := hS.sm hs
          have hRu := hR.sm hs
          have hcn : gI u (987 + i) 2 = nI (ch (987 + i)).length := by rw [hs.I (by simp; omega)]; exact (hW.2.2.2.1 _ (SD_mem hi)).2.1
          refine v_iload X (dk D_Di_gather 15 rfl) rfl ?_
          refine v_aload_n X (dk D_Di_gather 16 rfl) rfl ?_
          refine v_getF X (dk D_Di_gather 17 rfl) F_Di_23 rfl rfl (hSu.lt (by decide)) (hSu.2 982 2) ?_
          refine v_iload_n X (dk D_Di_gather 18 rfl) rfl ?_
          refine v_aaldR (b := 987 + i) X (dk D_Di_gather 19 rfl) rfl rfl (by decide) (hSu.lt (by decide)) (vp_in_nI hi (by decide)) (by rw [nI_clamp (by omega)]; exact hRu i hi) ?_
          refine v_getI X (dk D_Di_gather 20 rfl) F_Di_58 rfl (isH_D hSu hi).1 (isH_D hSu hi).2 ?_
          refine v_icmp_ge (tgt := 65) X (dk D_Di_gather 21 rfl) (by decide) (fun _ => ?_) (fun c35 => absurd (by rw [hcn]; exact nI_le (by omega) (by omega)) c35)
          refine v_iinc (v := nI (i + 1)) (lb := [some (.ref 982), some (.ref 3), some (.int (nI (i + 1))), some (.int x), some (.int (nI k))]) X (dk D_Di_gather 35 rfl) rfl (nI_1 i) (by decide) rfl ?_
          refine v_goto (tgt := 2) X (dk D_Di_gather 36 rfl) (by decide) ?_
          exact v_weak (la := [some (.ref 982), some (.ref 3), some (.int (nI (i + 1))), none, none]) ⟨rfl, rfl, rfl, trivial⟩ (ihi (i + 1) u (by omega) hs (by rw [show k = (D i).length by omega, List.take_length] at hRB; exact hRB))
        | succ e ih =>
          intro k x u hke hs hRB hxk
          have hSu := hS.sm hs
          have hRu := hR.sm hs
          have hcn : gI u (987 + i) 2 = nI (ch (987 + i)).length := by rw [hs.I (by simp; omega)]; exact (hW.2.2.2.1 _ (SD_mem hi)).2.1
          have hkl : k < (ch (987 + i)).length := by omega
          obtain ⟨p, hp⟩ : ∃ p, p = (ch (987 + i)).getD k 0 := ⟨_, rfl⟩
          have hx : x = nI p := by rw [hp]; exact hxk hkl
          have hpN : p < 32768 := by have h9 := ((hW.2.2.2.2.2.2.2.2.2.2.2.1 _ (SD_mem hi)).2 p (by rw [hp]; exact getD_mem' hkl)).1; have h5 := hW.2.2.2.2.2.2.2.1; omega
          have hpb : (gI g 984 p).toInt8.toInt32 = gI g 984 p := by have hm : (D i).getD k 0 ∈ D i := getD_mem (by omega); rw [← hX i hi, bys_getD hkl, ← hp] at hm; exact hDb i hi _ (by rw [← hX i hi]; exact hm)
          refine v_iload X (dk D_Di_gather 15 rfl) rfl ?_
          refine v_aload_n X (dk D_Di_gather 16 rfl) rfl ?_
          refine v_getF X (dk D_Di_gather 17 rfl) F_Di_23 rfl rfl (hSu.lt (by decide)) (hSu.2 982 2) ?_
          refine v_iload_n X (dk D_Di_gather 18 rfl) rfl ?_
          refine v_aaldR (b := 987 + i) X (dk D_Di_gather 19 rfl) rfl rfl (by decide) (hSu.lt (by decide)) (vp_in_nI hi (by decide)) (by rw [nI_clamp (by omega)]; exact hRu i hi) ?_
          refine v_getI X (dk D_Di_gather 20 rfl) F_Di_58 rfl (isH_D hSu hi).1 (isH_D hSu hi).2 ?_
          refine v_icmp_ge (tgt := 65) X (dk D_Di_gather 21 rfl) (by decide) (fun c35 => absurd c35 (by rw [hcn]; exact nI_ge (by omega) (by omega))) (fun _ => ?_)
          refine v_aload_n X (dk D_Di_gather 22 rfl) rfl ?_
          refine v_aload_n X (dk D_Di_gather 23 rfl) rfl ?_
          refine v_getF X (dk D_Di_gather 24 rfl) F_Di_15 rfl rfl (hSu.lt (by decide)) (hSu.2 982 1) ?_
          refine v_iload_n X (dk D_Di_gather 25 rfl) rfl ?_
          refine v_invV (As := [.int x]) (st := [.ref 3]) X (c_Ce_at l q (i := x) (isC_D hSu)) (dk D_Di_gather 26 rfl) G_Di_59 K_Ce_at V_Ce_at rfl rfl (hSu.lt (by decide)) rfl rfl (Nat.le_of_ble_eq_true rfl) (Nat.le_of_ble_eq_true rfl) (Nat.le_of_ble_eq_true rfl) (Nat.le_of_ble_eq_true rfl) (Nat.le_of_ble_eq_true rfl) ?_
          rintro v w ⟨rfl, hw⟩
          rw [hw, show (if ¬ x < 0 ∧ ¬ nI 32768 ≤ x then gI u 984 x.toNatClampNeg &&& 255 else -1) = gI g 984 p &&& 255 from by rw [hx, if_pos ⟨nI_pos (by omega), nI_ge hpN (by decide)⟩, nI_clamp (by omega), hs.I (by decide)]]
          show Vv _ _ _ _ _ _ _ _ _ _ _ _ _ _ _ [.int (gI g 984 p &&& 255), .ref 3] (0, 0, u)
          refine v_invV (As := [.int (gI g 984 p &&& 255)]) (st := []) X (k_add l q (x := gI g 984 p &&& 255) hRB) (dk D_Di_gather 27 rfl) G_Di_63 K_By_add V_By_add rfl rfl (hSu.lt (by decide)) rfl rfl (Nat.le_of_ble_eq_true rfl) (Nat.le_of_ble_eq_true rfl) (Nat.le_of_ble_eq_true rfl) (Nat.le_of_ble_eq_true rfl) (Nat.le_of_ble_eq_true rfl) ?_
          rintro v w2 ⟨rfl, hw1, hw2⟩
          show Vv _ _ _ _ _ _ _ _ _ _ _ _ _ _ _ [] (0, 0, w2.2.2)
          refine v_aload_n X (dk D_Di_gather 28 rfl) rfl ?_
          refine v_getF X (dk D_Di_gather 29 rfl) F_Di_15 rfl rfl ((hSu.sm hw1).lt (by decide)) ((hSu.sm hw1).2 982 1) ?_
          refine v_iload_n X (dk D_Di_gather 30 rfl) rfl ?_
          refine v_invV (As := [.int x]) (st := []) X (c_Ce_behind l q (i := x) (isC_D (hSu.sm hw1))) (dk D_Di_gather 31 rfl) G_Di_65 K_Ce_behind V_Ce_behind rfl rfl ((hSu.sm hw1).lt (by decide)) rfl rfl (Nat.le_of_ble_eq_true rfl) (Nat.le_of_ble_eq_true rfl) (Nat.le_of_ble_eq_true rfl) (Nat.le_of_ble_eq_true rfl) (Nat.le_of_ble_eq_true rfl) ?_
          rintro v w3 ⟨rfl, hw⟩
          rw [hw, show (if ¬ x < 0 ∧ ¬ nI 32768 ≤ x then gI w2.2.2 985 x.toNatClampNeg else -1) = gI g 985 p from by rw [hx, if_pos ⟨nI_pos (by omega), nI_ge hpN (by decide)⟩, nI_clamp (by omega), hw1.I (by decide), hs.I (by decide)]]
          show Vv _ _ _ _ _ _ _ _ _ _ _ _ _ _ _ [.int (gI g 985 p)] (0, 0, w2.2.2)
          refine v_istore_n (lb := [some (.ref 982), some (.ref 3), some (.int (nI i)), some (.int (gI g 985 p)), some (.int (nI k))]) X (dk D_Di_gather 32 rfl) (by decide) rfl ?_
          refine v_iinc (v := nI (k + 1)) (lb := [some (.ref 982), some (.ref 3), some (.int (nI i)), some (.int (gI g 985 p)), some (.int (nI (k + 1)))]) X (dk D_Di_gather 33 rfl) rfl (nI_1 k) (by decide) rfl ?_
          refine v_goto (tgt := 24) X (dk D_Di_gather 34 rfl) (by decide) ?_
          exact ih (k + 1) _ _ (by omega) (hs.tr hw1 (fun _ z => z) (fun _ z => z)) (by rw [tk_one _ (by omega), ← List.append_assoc, adL_app, show (D i).getD k 0 = gI g 984 p from by rw [← hX i hi, bys_getD hkl, hp]]; rw [and255_b, hpb] at hw2; exact hw2) (fun hk1 => by rw [hp]; exact hch.at.2 k hk1)
      refine v_iload_n X (dk D_Di_gather 2 rfl) rfl ?_
      refine v_aload_n X (dk D_Di_gather 3 rfl) rfl ?_
      refine v_getF X (dk D_Di_gather 4 rfl) F_Di_23 rfl rfl (hSu.lt (by decide)) (hSu.2 982 2) ?_
      refine v_alen (v := nI _) X (dk D_Di_gather 5 rfl) rfl rfl (hSu.lt (by decide)) rfl ?_
      refine v_icmp_ge (tgt := 71) X (dk D_Di_gather 6 rfl) (by decide) (fun c8 => absurd c8 (nI_ge (b := 10) hi (by decide))) (fun _ => ?_)
      refine v_aload_n X (dk D_Di_gather 7 rfl) rfl ?_
      refine v_getF X (dk D_Di_gather 8 rfl) F_Di_23 rfl rfl (hSu.lt (by decide)) (hSu.2 982 2) ?_
      refine v_iload_n X (dk D_Di_gather 9 rfl) rfl ?_
      refine v_aaldR (b := 987 + i) X (dk D_Di_gather 10 rfl) rfl rfl (by decide) (hSu.lt (by decide)) (vp_in_nI hi (by decide)) (by rw [nI_clamp (by omega)]; exact hRu i hi) ?_
      refine v_getI X (dk D_Di_gather 11 rfl) F_Di_55 rfl (isH_D hSu hi).1 (isH_D hSu hi).2 ?_
      refine v_istore_n (lb := [some (.ref 982), some (.ref 3), some (.int (nI i)), some (.int (gI u (987 + i) 0)), none]) X (dk D_Di_gather 12 rfl) (by decide) rfl ?_
      refine v_iconst (v := nI 0) X (dk D_Di_gather 13 rfl) (by decide) ?_
      refine v_istore (lb := [some (.ref 982), some (.ref 3), some (.int (nI i)), some (.int (gI u (987 + i) 0)), some (.int (nI 0))]) X (dk D_Di_gather 14 rfl) (by decide) rfl ?_
      exact inner (D i).length 0 _ u (by omega) hs (by rw [List.take_zero, List.append_nil]; exact hRB) (fun h0 => by rw [hs.I (by simp; omega)]; exact hch.at.1 h0)
  refine v_iconst (v := nI 0) X (dk D_Di_gather 0 rfl) (by decide) ?_
  refine v_istore_n (lb := [some (.ref 982), some (.ref 3), some (.int (nI 0)), none, none]) X (dk D_Di_gather 1 rfl) (by decide) rfl ?_
  exact outer 10 0 g (by omega) (sm.rf g _) hB
