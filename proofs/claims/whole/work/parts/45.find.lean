/-! rows with null; Meanings: find -/
section VNL
variable {p : Program} {l : Launch} {e : Env} {R : Room} {s : State} {m : MethodId} {args : Array Value} {below : List Frame} {meth : Method} {c : Code} {nL : Nat} {q : ev_T} {Qf : State → Prop} {pc : Nat} {la : List (Option Value)} {st : List Value} {u : mm_T} {cc : ByteArray} {own : String}
theorem v_aloadN (X : Cx p s m args c cc nL own q) {i : Nat} (hd : decode cc pc = .ok (.aload i, 2)) (hl : la[i]? = some (some .null)) (k : Vv p l e R s m args below meth c nL q Qf (pc + 2) la (.null :: st) u) : Vv p l e R s m args below meth c nL q Qf pc la st u :=
  fun ls H locs cells slots h1 h2 h3 h4 h5 => lv_aloadN X.1 X.2.1 hd (h1.2.2.2 i _ hl) (k ls H locs cells slots h1 h2 h3 h4 h5)
theorem v_astoreN (X : Cx p s m args c cc nL own q) {i : Nat} {lb : List (Option Value)} (hd : decode cc pc = .ok (.astore i, 2)) (hn : i < nL) (hs : st1 la i .null = lb) (k : Vv p l e R s m args below meth c nL q Qf (pc + 2) lb st u) : Vv p l e R s m args below meth c nL q Qf pc la (.null :: st) u :=
  fun ls H locs cells slots h1 h2 h3 h4 h5 => lv_astoreN X.1 X.2.1 hd (lh_all_has h1) hn rfl (fun ls' hl' => k ls' H locs cells slots (hs ▸ lh_st1 h1 hl') h2 h3 h4 h5)
theorem v_astoreR (X : Cx p s m args c cc nL own q) {i : Nat} {r : Option Nat} {lb : List (Option Value)} (hd : decode cc pc = .ok (.astore i, 2)) (hn : i < nL) (hs : st1 la i (va_rf r) = lb) (k : Vv p l e R s m args below meth c nL q Qf (pc + 2) lb st u) : Vv p l e R s m args below meth c nL q Qf pc la (va_rf r :: st) u := by
  cases r with
  | none => exact v_astoreN X hd hn hs k
  | some a => exact v_astore X hd hn hs k
end VNL
theorem and127 (h : Int32) : ∃ n, n < 128 ∧ h &&& 127 = nI n := by
  refine ⟨(h.toBitVec &&& 127#32).toNat, ?_, ?_⟩
  · rw [BitVec.toNat_and]
    have : h.toBitVec.toNat &&& (127#32).toNat ≤ (127#32).toNat := Nat.and_le_right
    have e : (127#32).toNat = 127 := rfl
    omega
  · apply Int32.toBitVec_inj.mp
    show h.toBitVec &&& 127#32 = BitVec.ofNat 32 (h.toBitVec &&& 127#32).toNat
    rw [BitVec.ofNat_toNat, BitVec.setWidth_eq]
/-- a list of meanings, by their numbers, from the reference r on -/
def rlk (nx : Nat → Option Nat) : List Nat → Option Nat → Prop
  | [], r => r = none
  | i :: is, r => r = some (31 + 3 * i) ∧ rlk nx is (nx (31 + 3 * i))
/-- meaning i has its name in its chain ps, and the hash of it -/
def MN (g : mu_T) (i : Nat) (ps : List Nat) : Prop := i < 317 ∧ CH g 28 (32 + 3 * i) ps ∧ (∀ p ∈ ps, p < 16512) ∧ ps.length ≤ 16512 ∧ (∀ x ∈ bys g 27 ps, isByte x) ∧ gI g (31 + 3 * i) 3 = hsh (bys g 27 ps)
set_option maxHeartbeats 4000000 in
set_option maxRecDepth 100000 in
theorem k_find (l : Launch) (q : ev_T) {ch : Nat → List Nat} {L : List Nat} {k : Nat} {b r0 n0 f n : Nat} {xs : List Int32} {ov : Bool} {g : mu_T} (hS : Shp g) (hY : RB g b r0 n0 xs ov) (hn0 : n0 < 1073741824) (hfn : f + n ≤ xs.length) (hxb : ∀ x ∈ xs, isByte x) (hk1 : k < 128) (hk2 : (hsh ((xs.drop f).take n)) &&& 127 = nI k) (hL : ∀ i ∈ L, MN g i (ch i)) (hlk2 : rlk (fun a => gR g a 4) L (gR g 29 k)) : Ctr l q M_Ms_find 2 [.ref 25, .ref b, .int (nI f), .int (nI n)] (0, 0, g) (fun v w => v = some (va_rf ((L.find? (fun i => decide (bys g 27 (ch i) = (xs.drop f).take n))).map (fun i => 31 + 3 * i))) ∧ w.2.2 = g) := by

  refine Ctr.mk (lb := [some (.ref 25), some (.ref b), some (.int (nI f)), some (.int (nI n)), none, none]) (by decide +kernel) (Nat.le_of_ble_eq_true rfl) rfl rfl ?_
  intro pp ee ss mm aa bb mt cd X hrt hlk hnm
  have loop : ∀ (is : List Nat) (r : Option Nat), (∀ i ∈ is, MN g i (ch i)) → rlk (fun a => gR g a 4) is r → L.find? (fun i => decide (bys g 27 (ch i) = (xs.drop f).take n)) = is.find? (fun i => decide (bys g 27 (ch i) = (xs.drop f).take n)) → Vv pp l ee (rmT 2 0 0) ss mm aa bb mt cd 6 q (MQ bb (Qw q (fun v w => v = some (va_rf ((L.find? (fun i => decide (bys g 27 (ch i) = (xs.drop f).take n))).map (fun i => 31 + 3 * i))) ∧ w.2.2 = g)) aa ss 0 0 (fun a => q.1 ≤ a)) 20 [some (.ref 25), some (.ref b), some (.int (nI f)), some (.int (nI n)), some (.int (hsh ((xs.drop f).take n))), some (va_rf r)] [] (0, 0, g) := by
    intro is
    induction is with
    | nil =>
      intro r hg hr hfd
      obtain rfl : r = none := hr
      refine v_aloadN X (dk D_Ms_find 11 rfl) rfl ?_
      refine v_ifnullN (tgt := 60) X (dk D_Ms_find 12 rfl) (by decide) ?_
      refine v_null X (dk D_Ms_find 30 rfl) ?_
      exact v_aret (r := none) X hlk hrt (Or.inl ⟨_, rfl⟩) (dk D_Ms_find 31 rfl) ⟨by rw [hfd]; rfl, rfl⟩
    | cons i is ih =>
      intro r hg hr hfd
      obtain rfl : r = some (31 + 3 * i) := hr.1
      have hM := hg i (List.mem_cons_self ..)
      refine v_aload X (dk D_Ms_find 11 rfl) rfl ?_
      refine v_ifnull X (dk D_Ms_find 12 rfl) ?_
      refine v_aload X (dk D_Ms_find 13 rfl) rfl ?_
      refine v_getI X (dk D_Ms_find 14 rfl) F_Ms_76 rfl (kdM i hM.1).1 (hS.lt (by have := hM.1; omega)) ?_
      refine v_iload X (dk D_Ms_find 15 rfl) rfl ?_
      refine v_icmp_ne (tgt := 50) X (dk D_Ms_find 16 rfl) (by decide) (fun c32 => ?_) (fun c32 => ?_)
      · refine v_aload X (dk D_Ms_find 26 rfl) rfl ?_
        refine v_getR X (dk D_Ms_find 27 rfl) F_Ms_60 rfl (kdM i hM.1).1 (hS.lt (by have := hM.1; omega)) rfl ?_
        refine v_astoreR (lb := [some (.ref 25), some (.ref b), some (.int (nI f)), some (.int (nI n)), some (.int (hsh ((xs.drop f).take n))), some (va_rf (gR g (31 + 3 * i) 4))]) X (dk D_Ms_find 28 rfl) (by decide) rfl ?_
        refine v_goto (tgt := 20) X (dk D_Ms_find 29 rfl) (by decide) ?_
        exact ih _ (fun j hj => hg j (List.mem_cons_of_mem _ hj)) hr.2 (hfd.trans (List.find?_cons_of_neg (p := (fun i => decide (bys g 27 (ch i) = (xs.drop f).take n))) (show ¬ decide (bys g 27 (ch i) = (xs.drop f).take n) = true from fun e => (fun e => c32 (by rw [hM.2.2.2.2.2, e])) (of_decide_eq_true e))))
      · refine v_aload_n X (dk D_Ms_find 17 rfl) rfl ?_
        refine v_aload X (dk D_Ms_find 18 rfl) rfl ?_
        refine v_aload_n X (dk D_Ms_find 19 rfl) rfl ?_
        refine v_iload_n X (dk D_Ms_find 20 rfl) rfl ?_
        refine v_iload_n X (dk D_Ms_find 21 rfl) rfl ?_
        refine v_invV (As := [.ref (31 + 3 * i), .ref b, .int (nI f), .int (nI n)]) (st := []) X (k_isNamed l q hS hM.1 hM.2.1 hM.2.2.1 hM.2.2.2.1 hM.2.2.2.2.1 hxb hY hn0 hfn) (dk D_Ms_find 22 rfl) G_Ms_79 K_Ms_isNamed V_Ms_isNamed rfl rfl (hS.lt (by decide)) rfl rfl (Nat.le_of_ble_eq_true rfl) (Nat.le_of_ble_eq_true rfl) (Nat.le_of_ble_eq_true rfl) (Nat.le_of_ble_eq_true rfl) (Nat.le_of_ble_eq_true rfl) ?_
        rintro v w ⟨rfl, hw⟩
        rw [hw]
        show Vv _ _ _ _ _ _ _ _ _ _ _ _ _ _ _ [.int (if bys g 27 (ch i) = (xs.drop f).take n then 1 else 0)] (0, 0, g)
        refine v_if_eq (tgt := 50) X (dk D_Ms_find 23 rfl) (by decide) (fun c44 => ?_) (fun c44 => ?_)
        · refine v_aload X (dk D_Ms_find 26 rfl) rfl ?_
          refine v_getR X (dk D_Ms_find 27 rfl) F_Ms_60 rfl (kdM i hM.1).1 (hS.lt (by have := hM.1; omega)) rfl ?_
          refine v_astoreR (lb := [some (.ref 25), some (.ref b), some (.int (nI f)), some (.int (nI n)), some (.int (hsh ((xs.drop f).take n))), some (va_rf (gR g (31 + 3 * i) 4))]) X (dk D_Ms_find 28 rfl) (by decide) rfl ?_
          refine v_goto (tgt := 20) X (dk D_Ms_find 29 rfl) (by decide) ?_
          exact ih _ (fun j hj => hg j (List.mem_cons_of_mem _ hj)) hr.2 (hfd.trans (List.find?_cons_of_neg (p := (fun i => decide (bys g 27 (ch i) = (xs.drop f).take n))) (show ¬ decide (bys g 27 (ch i) = (xs.drop f).take n) = true from fun e => (fun e => absurd c44 (by rw [if_pos e]; decide)) (of_decide_eq_true e))))
        · refine v_aload X (dk D_Ms_find 24 rfl) rfl ?_
          exact v_aret (r := some (31 + 3 * i)) X hlk hrt (Or.inl ⟨_, rfl⟩) (dk D_Ms_find 25 rfl) ⟨by rw [hfd.trans (List.find?_cons_of_pos (p := (fun i => decide (bys g 27 (ch i) = (xs.drop f).take n))) (decide_eq_true (Decidable.byContradiction (fun e => c44 (if_neg e)))))]; rfl, rfl⟩
  refine v_aload_n X (dk D_Ms_find 0 rfl) rfl ?_
  refine v_iload_n X (dk D_Ms_find 1 rfl) rfl ?_
  refine v_iload_n X (dk D_Ms_find 2 rfl) rfl ?_
  refine v_invS (As := [.ref b, .int (nI f), .int (nI n)]) (st := []) X (k_hashOf l q hY hn0 hfn) (dk D_Ms_find 3 rfl) G_Ms_69 K_Ms_hashOf S_Ms_hashOf rfl rfl (Nat.le_of_ble_eq_true rfl) (Nat.le_of_ble_eq_true rfl) (Nat.le_of_ble_eq_true rfl) (Nat.le_of_ble_eq_true rfl) (Nat.le_of_ble_eq_true rfl) ?_
  rintro v w ⟨rfl, hw⟩
  rw [hw]
  show Vv _ _ _ _ _ _ _ _ _ _ _ _ _ _ _ [.int (hsh ((xs.drop f).take n))] (0, 0, g)
  refine v_istore (lb := [some (.ref 25), some (.ref b), some (.int (nI f)), some (.int (nI n)), some (.int (hsh ((xs.drop f).take n))), none]) X (dk D_Ms_find 4 rfl) (by decide) rfl ?_
  refine v_aload_n X (dk D_Ms_find 5 rfl) rfl ?_
  refine v_getF X (dk D_Ms_find 6 rfl) F_Ms_22 rfl rfl (hS.lt (by decide)) (hS.2 25 3) ?_
  refine v_iload X (dk D_Ms_find 7 rfl) rfl ?_
  refine v_invS (As := [.int (hsh ((xs.drop f).take n))]) (st := [.ref 29]) X (k_bucketOf l q (h := (hsh ((xs.drop f).take n))) (g := g)) (dk D_Ms_find 8 rfl) G_Ms_73 K_Ms_bucketOf S_Ms_bucketOf rfl rfl (Nat.le_of_ble_eq_true rfl) (Nat.le_of_ble_eq_true rfl) (Nat.le_of_ble_eq_true rfl) (Nat.le_of_ble_eq_true rfl) (Nat.le_of_ble_eq_true rfl) ?_
  rintro v w ⟨rfl, hw⟩
  rw [hw, hk2]
  show Vv _ _ _ _ _ _ _ _ _ _ _ _ _ _ _ [.int (nI k), .ref 29] (0, 0, g)
  refine v_aald X (dk D_Ms_find 9 rfl) rfl rfl (by decide) (hS.lt (by decide)) (vp_in_nI hk1 (by decide)) rfl ?_
  refine v_astoreR (lb := [some (.ref 25), some (.ref b), some (.int (nI f)), some (.int (nI n)), some (.int (hsh ((xs.drop f).take n))), some (va_rf (gR g 29 (nI k).toNatClampNeg))]) X (dk D_Ms_find 10 rfl) (by decide) rfl ?_
  exact loop L _ hL (by rw [nI_clamp (by omega)]; exact hlk2) rfl
