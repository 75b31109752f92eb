/-! Meanings: hashOf, bucketOf, isNamed -/
theorem kdM : ∀ i, i < 317 → kdT (31 + 3 * i) = .inl 8 ∧ kdT (32 + 3 * i) = .inl 4 ∧ kdT (33 + 3 * i) = .inl 4 := by decide +kernel
theorem fRM {i : Nat} (h : i < 317) : fR0 (31 + 3 * i) 0 = some (32 + 3 * i) ∧ fR0 (31 + 3 * i) 1 = some (33 + 3 * i) := by
  have c : 31 ≤ 31 + 3 * i ∧ 31 + 3 * i < 982 ∧ (31 + 3 * i - 31) % 3 = 0 := by omega
  refine ⟨(if_pos c).trans ((if_pos rfl).trans (congrArg some (by omega))), (if_pos c).trans ((if_neg (by decide)).trans ((if_pos rfl).trans (congrArg some (by omega))))⟩
theorem isC_M {g : mu_T} (hS : Shp g) : isC g 26 27 28 16512 := ⟨rfl, hS.lt (by decide), hS.2 26 0, hS.2 26 1, rfl, hS.lt (by decide), rfl, hS.lt (by decide), by decide⟩
def hsh (l : List Int32) : Int32 := l.foldl (fun h x => h * 31 + (x &&& 255)) 0
set_option maxHeartbeats 4000000 in
set_option maxRecDepth 100000 in
theorem k_hashOf (l : Launch) (q : ev_T) {b r0 n0 f n : Nat} {xs : List Int32} {ov : Bool} {g : mu_T} (hY : RB g b r0 n0 xs ov) (hn0 : n0 < 1073741824) (hfn : f + n ≤ xs.length) : Ctr l q M_Ms_hashOf 1 [.ref b, .int (nI f), .int (nI n)] (0, 0, g) (fun v w => v = some (.int (hsh ((xs.drop f).take n))) ∧ w.2.2 = g) := by
  have hyn := hY.2.1
  refine Ctr.mk (lb := [some (.ref b), some (.int (nI f)), some (.int (nI n)), none, none]) (by decide +kernel) (Nat.le_of_ble_eq_true rfl) rfl rfl ?_
  intro pp ee ss mm aa bb mt cd X hrt hlk hnm
  have loop : ∀ (d k : Nat), k + d = n → Vv pp l ee (rmT 1 0 0) ss mm aa bb mt cd 5 q (MQ bb (Qw q (fun v w => v = some (.int (hsh ((xs.drop f).take n))) ∧ w.2.2 = g)) aa ss 0 0 (fun a => q.1 ≤ a)) 5 [some (.ref b), some (.int (nI f)), some (.int (nI n)), some (.int (hsh ((xs.drop f).take k))), some (.int (nI k))] [] (0, 0, g) := by
    intro d
    induction d with
    | zero =>
      intro k hkd
      refine v_iload X (dk D_Ms_hashOf 4 rfl) rfl ?_
      refine v_iload_n X (dk D_Ms_hashOf 5 rfl) rfl ?_
      refine v_icmp_ge (tgt := 31) X (dk D_Ms_hashOf 6 rfl) (by decide) (fun _ => ?_) (fun c8 => absurd (nI_le (by omega) (by omega)) c8)
      refine v_iload_n X (dk D_Ms_hashOf 19 rfl) rfl ?_
      exact v_iret X hlk hrt (dk D_Ms_hashOf 20 rfl) ⟨by rw [show k = n by omega], rfl⟩
    | succ d ih =>
      intro k hkd
      refine v_iload X (dk D_Ms_hashOf 4 rfl) rfl ?_
      refine v_iload_n X (dk D_Ms_hashOf 5 rfl) rfl ?_
      refine v_icmp_ge (tgt := 31) X (dk D_Ms_hashOf 6 rfl) (by decide) (fun c8 => absurd c8 (nI_ge (by omega) (by omega))) (fun _ => ?_)
      refine v_iload_n X (dk D_Ms_hashOf 7 rfl) rfl ?_
      refine v_bipush (v := 31) X (dk D_Ms_hashOf 8 rfl) (by decide) ?_
      refine v_imul X (dk D_Ms_hashOf 9 rfl) ?_
      refine v_aload_n X (dk D_Ms_hashOf 10 rfl) rfl ?_
      refine v_iload_n X (dk D_Ms_hashOf 11 rfl) rfl ?_
      refine v_iload X (dk D_Ms_hashOf 12 rfl) rfl ?_
      refine v_iadd X (dk D_Ms_hashOf 13 rfl) ?_
      rw [nI_add]
      refine v_invV (As := [.int (nI (f + k))]) (st := [.int ((hsh ((xs.drop f).take k)) * 31)]) X (k_at l q hY) (dk D_Ms_hashOf 14 rfl) G_Ms_63 K_By_at V_By_at hY.1.1 rfl hY.1.2.1 rfl rfl (Nat.le_of_ble_eq_true rfl) (Nat.le_of_ble_eq_true rfl) (Nat.le_of_ble_eq_true rfl) (Nat.le_of_ble_eq_true rfl) (Nat.le_of_ble_eq_true rfl) ?_
      rintro v w ⟨rfl, hw⟩
      rw [hw, atL_nI (show f + k < xs.length by omega) (by omega)]
      show Vv _ _ _ _ _ _ _ _ _ _ _ _ _ _ _ [.int (xs.getD (f + k) 0 &&& 255), .int ((hsh ((xs.drop f).take k)) * 31)] (0, 0, g)
      refine v_iadd X (dk D_Ms_hashOf 15 rfl) ?_
      rw [show (hsh ((xs.drop f).take k)) * 31 + (xs.getD (f + k) 0 &&& 255) = (hsh ((xs.drop f).take (k + 1))) from by rw [tk_one _ (show k < (xs.drop f).length by rw [List.length_drop]; omega), hsh, hsh, List.foldl_append]; simp only [List.foldl_cons, List.foldl_nil, List.getD_eq_getElem?_getD, List.getElem?_drop]]
      refine v_istore_n (lb := [some (.ref b), some (.int (nI f)), some (.int (nI n)), some (.int (hsh ((xs.drop f).take (k + 1)))), some (.int (nI k))]) X (dk D_Ms_hashOf 16 rfl) (by decide) rfl ?_
      refine v_iinc (v := nI (k + 1)) (lb := [some (.ref b), some (.int (nI f)), some (.int (nI n)), some (.int (hsh ((xs.drop f).take (k + 1)))), some (.int (nI (k + 1)))]) X (dk D_Ms_hashOf 17 rfl) rfl (nI_1 k) (by decide) rfl ?_
      refine v_goto (tgt := 5) X (dk D_Ms_hashOf 18 rfl) (by decide) ?_
      exact ih (k + 1) (by omega)
  refine v_iconst (v := 0) X (dk D_Ms_hashOf 0 rfl) (by decide) ?_
  refine v_istore_n (lb := [some (.ref b), some (.int (nI f)), some (.int (nI n)), some (.int 0), none]) X (dk D_Ms_hashOf 1 rfl) (by decide) rfl ?_
  refine v_iconst (v := nI 0) X (dk D_Ms_hashOf 2 rfl) (by decide) ?_
  refine v_istore (lb := [some (.ref b), some (.int (nI f)), some (.int (nI n)), some (.int (hsh ((xs.drop f).take 0))), some (.int (nI 0))]) X (dk D_Ms_hashOf 3 rfl) (by decide) rfl ?_
  exact loop n 0 (by omega)
set_option maxHeartbeats 4000000 in
set_option maxRecDepth 100000 in
theorem k_bucketOf (l : Launch) (q : ev_T) {h : Int32} {g : mu_T}  : Ctr l q M_Ms_bucketOf 0 [.int h] (0, 0, g) (fun v w => v = some (.int (h &&& 127)) ∧ w.2.2 = g) := by

  refine Ctr.mk (lb := [some (.int h)]) (by decide +kernel) (Nat.le_of_ble_eq_true rfl) rfl rfl ?_
  intro pp ee ss mm aa bb mt cd X hrt hlk hnm
  refine v_iload_n X (dk D_Ms_bucketOf 0 rfl) rfl ?_
  refine v_bipush (v := 127) X (dk D_Ms_bucketOf 1 rfl) (by decide) ?_
  refine v_iand X (dk D_Ms_bucketOf 2 rfl) ?_
  exact v_iret X hlk hrt (dk D_Ms_bucketOf 3 rfl) ⟨rfl, rfl⟩
theorem b255_eq {x y : Int32} (hx : isByte x) (hy : isByte y) : x &&& 255 = y &&& 255 ↔ x = y := ⟨fun h => by rw [← hx, ← hy, ← and255_b x, ← and255_b y, h], fun h => by rw [h]⟩
theorem l_eq {l m : List Int32} (hl : l.length = m.length) (h : ∀ k, k < l.length → l.getD k 0 = m.getD k 0) : l = m := by
  refine List.ext_getElem hl (fun k h1 h2 => ?_)
  have := h k h1
  rw [List.getD_eq_getElem?_getD, List.getD_eq_getElem?_getD, List.getElem?_eq_getElem h1, List.getElem?_eq_getElem h2] at this
  exact this
set_option maxHeartbeats 4000000 in
set_option maxRecDepth 100000 in
theorem k_isNamed (l : Launch) (q : ev_T) {i : Nat} {ps : List Nat} {b r0 n0 f n : Nat} {xs : List Int32} {ov : Bool} {g : mu_T} (hS : Shp g) (hi : i < 317) (hch : CH g 28 (32 + 3 * i) ps) (hps : ∀ p ∈ ps, p < 16512) (hpl : ps.length ≤ 16512) (hpb : ∀ x ∈ bys g 27 ps, isByte x) (hxb : ∀ x ∈ xs, isByte x) (hY : RB g b r0 n0 xs ov) (hn0 : n0 < 1073741824) (hfn : f + n ≤ xs.length) : Ctr l q M_Ms_isNamed 1 [.ref 25, .ref (31 + 3 * i), .ref b, .int (nI f), .int (nI n)] (0, 0, g) (fun v w => v = some (.int (if bys g 27 ps = (xs.drop f).take n then 1 else 0)) ∧ w.2.2 = g) := by
  have hyn := hY.2.1
  have hbl : (bys g 27 ps).length = ps.length := by rw [bys, List.length_map]
  have htl : ((xs.drop f).take n).length = n := by rw [List.length_take, List.length_drop]; omega
  refine Ctr.mk (lb := [some (.ref 25), some (.ref (31 + 3 * i)), some (.ref b), some (.int (nI f)), some (.int (nI n)), none, none]) (by decide +kernel) (Nat.le_of_ble_eq_true rfl) rfl rfl ?_
  intro pp ee ss mm aa bb mt cd X hrt hlk hnm
  have loop : ps.length = n → ∀ (d k : Nat) (x : Int32), k + d = n → (k < ps.length → x = nI (ps.getD k 0)) → (∀ j, j < k → (bys g 27 ps).getD j 0 = ((xs.drop f).take n).getD j 0) → Vv pp l ee (rmT 1 0 0) ss mm aa bb mt cd 7 q (MQ bb (Qw q (fun v w => v = some (.int (if bys g 27 ps = (xs.drop f).take n then 1 else 0)) ∧ w.2.2 = g)) aa ss 0 0 (fun a => q.1 ≤ a)) 26 [some (.ref 25), some (.ref (31 + 3 * i)), some (.ref b), some (.int (nI f)), some (.int (nI n)), some (.int x), some (.int (nI k))] [] (0, 0, g) := by
    intro hlen d
    induction d with
    | zero =>
      intro k x hkd hxk hal
      refine v_iload X (dk D_Ms_isNamed 13 rfl) rfl ?_
      refine v_iload X (dk D_Ms_isNamed 14 rfl) rfl ?_
      refine v_icmp_ge (tgt := 72) X (dk D_Ms_isNamed 15 rfl) (by decide) (fun _ => ?_) (fun c30 => absurd (nI_le (by omega) (by omega)) c30)
      refine v_iconst (v := 1) X (dk D_Ms_isNamed 35 rfl) (by decide) ?_
      exact v_zret X hlk hrt rfl (dk D_Ms_isNamed 36 rfl) ⟨by rw [if_pos (l_eq (by rw [hbl, htl, hlen]) (fun j hj => hal j (by rw [hbl] at hj; omega)))], rfl⟩
    | succ d ih =>
      intro k x hkd hxk hal
      have hkl : k < ps.length := by omega
      have hx : x = nI (ps.getD k 0) := hxk hkl
      have hpN : ps.getD k 0 < 16512 := hps _ (getD_mem' hkl)
      have hgd : ((xs.drop f).take n).getD k 0 = xs.getD (f + k) 0 := by simp only [List.getD_eq_getElem?_getD]; rw [List.getElem?_take, if_pos (by omega), List.getElem?_drop]
      have hbx : isByte ((bys g 27 ps).getD k 0) := hpb _ (getD_mem (by rw [hbl]; exact hkl))
      have hby : isByte (((xs.drop f).take n).getD k 0) := by rw [hgd]; exact hxb _ (getD_mem (by omega))
      refine v_iload X (dk D_Ms_isNamed 13 rfl) rfl ?_
      refine v_iload X (dk D_Ms_isNamed 14 rfl) rfl ?_
      refine v_icmp_ge (tgt := 72) X (dk D_Ms_isNamed 15 rfl) (by decide) (fun c30 => absurd c30 (nI_ge (by omega) (by omega))) (fun _ => ?_)
      refine v_aload_n X (dk D_Ms_isNamed 16 rfl) rfl ?_
      refine v_getF X (dk D_Ms_isNamed 17 rfl) F_Ms_16 rfl rfl (hS.lt (by decide)) (hS.2 25 0) ?_
      refine v_iload X (dk D_Ms_isNamed 18 rfl) rfl ?_
      refine v_invV (As := [.int x]) (st := []) X (c_Ce_at l q (i := x) (isC_M hS)) (dk D_Ms_isNamed 19 rfl) G_Ms_89 K_Ce_at V_Ce_at rfl rfl (hS.lt (by decide)) rfl rfl (Nat.le_of_ble_eq_true rfl) (Nat.le_of_ble_eq_true rfl) (Nat.le_of_ble_eq_true rfl) (Nat.le_of_ble_eq_true rfl) (Nat.le_of_ble_eq_true rfl) ?_
      rintro v w ⟨rfl, hw⟩
      rw [hw, show (if ¬ x < 0 ∧ ¬ nI 16512 ≤ x then gI g 27 x.toNatClampNeg &&& 255 else -1) = (bys g 27 ps).getD k 0 &&& 255 from by rw [bys_getD hkl, hx, if_pos ⟨nI_pos (by omega), nI_ge hpN (by decide)⟩, nI_clamp (by omega)]]
      show Vv _ _ _ _ _ _ _ _ _ _ _ _ _ _ _ [.int ((bys g 27 ps).getD k 0 &&& 255)] (0, 0, g)
      refine v_aload_n X (dk D_Ms_isNamed 20 rfl) rfl ?_
      refine v_iload_n X (dk D_Ms_isNamed 21 rfl) rfl ?_
      refine v_iload X (dk D_Ms_isNamed 22 rfl) rfl ?_
      refine v_iadd X (dk D_Ms_isNamed 23 rfl) ?_
      rw [nI_add]
      refine v_invV (As := [.int (nI (f + k))]) (st := [.int ((bys g 27 ps).getD k 0 &&& 255)]) X (k_at l q hY) (dk D_Ms_isNamed 24 rfl) G_Ms_63 K_By_at V_By_at hY.1.1 rfl hY.1.2.1 rfl rfl (Nat.le_of_ble_eq_true rfl) (Nat.le_of_ble_eq_true rfl) (Nat.le_of_ble_eq_true rfl) (Nat.le_of_ble_eq_true rfl) (Nat.le_of_ble_eq_true rfl) ?_
      rintro v w ⟨rfl, hw⟩
      rw [hw, atL_nI (show f + k < xs.length by omega) (by omega), ← hgd]
      show Vv _ _ _ _ _ _ _ _ _ _ _ _ _ _ _ [.int (((xs.drop f).take n).getD k 0 &&& 255), .int ((bys g 27 ps).getD k 0 &&& 255)] (0, 0, g)
      refine v_icmp_eq (tgt := 55) X (dk D_Ms_isNamed 25 rfl) (by decide) (fun c50 => ?_) (fun c50 => ?_)
      · refine v_aload_n X (dk D_Ms_isNamed 28 rfl) rfl ?_
        refine v_getF X (dk D_Ms_isNamed 29 rfl) F_Ms_16 rfl rfl (hS.lt (by decide)) (hS.2 25 0) ?_
        refine v_iload X (dk D_Ms_isNamed 30 rfl) rfl ?_
        refine v_invV (As := [.int x]) (st := []) X (c_Ce_behind l q (i := x) (isC_M hS)) (dk D_Ms_isNamed 31 rfl) G_Ms_90 K_Ce_behind V_Ce_behind rfl rfl (hS.lt (by decide)) rfl rfl (Nat.le_of_ble_eq_true rfl) (Nat.le_of_ble_eq_true rfl) (Nat.le_of_ble_eq_true rfl) (Nat.le_of_ble_eq_true rfl) (Nat.le_of_ble_eq_true rfl) ?_
        rintro v w3 ⟨rfl, hw⟩
        rw [hw, show (if ¬ x < 0 ∧ ¬ nI 16512 ≤ x then gI g 28 x.toNatClampNeg else -1) = gI g 28 (ps.getD k 0) from by rw [hx, if_pos ⟨nI_pos (by omega), nI_ge hpN (by decide)⟩, nI_clamp (by omega)]]
        show Vv _ _ _ _ _ _ _ _ _ _ _ _ _ _ _ [.int (gI g 28 (ps.getD k 0))] (0, 0, g)
        refine v_istore (lb := [some (.ref 25), some (.ref (31 + 3 * i)), some (.ref b), some (.int (nI f)), some (.int (nI n)), some (.int (gI g 28 (ps.getD k 0))), some (.int (nI k))]) X (dk D_Ms_isNamed 32 rfl) (by decide) rfl ?_
        refine v_iinc (v := nI (k + 1)) (lb := [some (.ref 25), some (.ref (31 + 3 * i)), some (.ref b), some (.int (nI f)), some (.int (nI n)), some (.int (gI g 28 (ps.getD k 0))), some (.int (nI (k + 1)))]) X (dk D_Ms_isNamed 33 rfl) rfl (nI_1 k) (by decide) rfl ?_
        refine v_goto (tgt := 26) X (dk D_Ms_isNamed 34 rfl) (by decide) ?_
        exact ih (k + 1) _ (by omega) (fun hk1 => hch.at.2 k hk1) (fun j hj => if e : j = k then by rw [e]; exact (b255_eq hbx hby).mp c50 else hal j (by omega))
      · refine v_iconst (v := 0) X (dk D_Ms_isNamed 26 rfl) (by decide) ?_
        exact v_zret X hlk hrt rfl (dk D_Ms_isNamed 27 rfl) ⟨by rw [if_neg (fun e => c50 (by rw [e]))], rfl⟩
  refine v_aload_n X (dk D_Ms_isNamed 0 rfl) rfl ?_
  refine v_getF X (dk D_Ms_isNamed 1 rfl) F_Ms_48 rfl (kdM i hi).1 (hS.lt (by omega)) ((hS.2 _ 0).trans (fRM hi).1) ?_
  refine v_getI X (dk D_Ms_isNamed 2 rfl) F_Ms_83 rfl (kdM i hi).2.1 (hS.lt (by omega)) ?_
  refine v_iload X (dk D_Ms_isNamed 3 rfl) rfl ?_
  refine v_icmp_eq (tgt := 14) X (dk D_Ms_isNamed 4 rfl) (by decide) (fun c9 => ?_) (fun c9 => ?_)
  · refine v_aload_n X (dk D_Ms_isNamed 7 rfl) rfl ?_
    refine v_getF X (dk D_Ms_isNamed 8 rfl) F_Ms_48 rfl (kdM i hi).1 (hS.lt (by omega)) ((hS.2 _ 0).trans (fRM hi).1) ?_
    refine v_getI X (dk D_Ms_isNamed 9 rfl) F_Ms_86 rfl (kdM i hi).2.1 (hS.lt (by omega)) ?_
    refine v_istore (lb := [some (.ref 25), some (.ref (31 + 3 * i)), some (.ref b), some (.int (nI f)), some (.int (nI n)), some (.int (gI g (32 + 3 * i) 0)), none]) X (dk D_Ms_isNamed 10 rfl) (by decide) rfl ?_
    refine v_iconst (v := nI 0) X (dk D_Ms_isNamed 11 rfl) (by decide) ?_
    refine v_istore (lb := [some (.ref 25), some (.ref (31 + 3 * i)), some (.ref b), some (.int (nI f)), some (.int (nI n)), some (.int (gI g (32 + 3 * i) 0)), some (.int (nI 0))]) X (dk D_Ms_isNamed 12 rfl) (by decide) rfl ?_
    exact loop ((nI_eq (by omega) (by omega)).mp (by rw [← hch.2.1]; exact c9)) n 0 _ (by omega) (fun h0 => hch.at.1 h0) (fun j hj => absurd hj (Nat.not_lt_zero _))
  · refine v_iconst (v := 0) X (dk D_Ms_isNamed 5 rfl) (by decide) ?_
    exact v_zret X hlk hrt rfl (dk D_Ms_isNamed 6 rfl) ⟨by rw [if_neg (fun e => c9 (by rw [hch.2.1, show ps.length = n from by rw [← hbl, e, htl]]))], rfl⟩
