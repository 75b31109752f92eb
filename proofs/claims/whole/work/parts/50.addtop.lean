/-! Meanings: addOnTop -/
def UU (i : Nat) : List Nat := [25, 26, 27, 28, 29, 31 + 3 * i, 32 + 3 * i]
set_option maxHeartbeats 4000000 in
set_option maxRecDepth 100000 in
theorem k_addOnTop (l : Launch) (q : ev_T) {bk : Nat → List Nat} {i k : Nat} {sp : List Nat} {N T : Nat → List Int32} {B : Nat → Option Nat} {df db : Nat} {b r0 n0 f n : Nat} {xs : List Int32} {ov : Bool} {g : mu_T} (hS : Shp g) (hM : MS g bk (i :: sp) N T B df db) (hY : RB g b r0 n0 xs ov) (hn0 : n0 < 1073741824) (hb : b < 25) (hr : r0 < 25) (hfn : f + n ≤ xs.length) (hxb : ∀ x ∈ xs, isByte x) (hk1 : k < 128) (hk2 : (hsh ((xs.drop f).take n)) &&& 127 = nI k) (hrm : byM N T + n ≤ 16512) : Ctr l q M_Ms_addOnTop 2 [.ref 25, .ref b, .int (nI f), .int (nI n)] (0, 0, g) (fun v w => v = some (va_rf (some (31 + 3 * i))) ∧ sm g w.2.2 (UU i) ∧ MS w.2.2 (va_up bk k (i :: bk k)) sp (va_up N i ((xs.drop f).take n)) T B df db) := by
  have hM0 := hM
  obtain ⟨-, -, ⟨ch, fl, fr, hW, hN⟩, -, hsp0, -, -, h8, -⟩ := hM0
  have hi := (h8 i (List.mem_cons_self ..)).1
  have hsp : gR g 25 5 = some (31 + 3 * i) := hsp0.1
  have hyn := hY.2.1
  have z1 : sm g (xR g 25 5 (gR g (31 + 3 * i) 4)) [25] := (sm.rf g _).xR (by simp)
  have z2 : sm g (xI (xR g 25 5 (gR g (31 + 3 * i) 4)) (31 + 3 * i) 3 (hsh ((xs.drop f).take n))) [25, (31 + 3 * i)] := ((sm.rf g _).xR (by simp)).xI (by simp)
  have hb1 : b ∉ [25] := by simp; omega
  have hr1 : r0 ∉ [25] := by simp; omega
  have hb2 : b ∉ [25, (31 + 3 * i)] := by simp; omega
  have hr2 : r0 ∉ [25, (31 + 3 * i)] := by simp; omega
  have hfree : b ∉ [26, 27, 28, (32 + 3 * i)] ∧ r0 ∉ [26, 27, 28, (32 + 3 * i)] := by constructor <;> (simp; omega)
  have hW2 : CW (xI (xR g 25 5 (gR g (31 + 3 * i) 4)) (31 + 3 * i) 3 (hsh ((xs.drop f).take n))) 26 27 28 16512 SM ch fl fr := hW.sm z2 (by simp; omega) (by simp; omega) (fun a ha => by obtain ⟨y, hy, e⟩ := SM_of ha; simp; omega)
  have hroom : tot SM ch + n ≤ 16512 := by rw [tot_SM hN]; exact hrm
  refine Ctr.mk (lb := [some (.ref 25), some (.ref b), some (.int (nI f)), some (.int (nI n)), none, none]) (by decide +kernel) (Nat.le_of_ble_eq_true rfl) rfl rfl ?_
  intro pp ee ss mm aa bb mt cd X hrt hlk hnm
  refine v_aload_n X (dk D_Ms_addOnTop 0 rfl) rfl ?_
  refine v_getR X (dk D_Ms_addOnTop 1 rfl) F_Ms_44 rfl rfl (hS.lt (by decide)) hsp ?_
  refine v_astore (lb := [some (.ref 25), some (.ref b), some (.int (nI f)), some (.int (nI n)), some (.ref (31 + 3 * i)), none]) X (dk D_Ms_addOnTop 2 rfl) (by decide) rfl ?_
  refine v_aload X (dk D_Ms_addOnTop 3 rfl) rfl ?_
  refine v_ifnonnull (tgt := 13) X (dk D_Ms_addOnTop 4 rfl) (by decide) ?_
  refine v_aload_n X (dk D_Ms_addOnTop 7 rfl) rfl ?_
  refine v_aload X (dk D_Ms_addOnTop 8 rfl) rfl ?_
  refine v_getR X (dk D_Ms_addOnTop 9 rfl) F_Ms_60 rfl (kdM i hi).1 (hS.lt (by omega)) rfl ?_
  refine v_putR (r := gR g (31 + 3 * i) 4) X (dk D_Ms_addOnTop 10 rfl) F_Ms_44 CK_Ms rfl rfl (hS.lt (by decide)) ⟨_, rfl⟩ ?_
  refine v_aload X (dk D_Ms_addOnTop 11 rfl) rfl ?_
  refine v_aload_n X (dk D_Ms_addOnTop 12 rfl) rfl ?_
  refine v_iload_n X (dk D_Ms_addOnTop 13 rfl) rfl ?_
  refine v_iload_n X (dk D_Ms_addOnTop 14 rfl) rfl ?_
  refine v_invS (As := [.ref b, .int (nI f), .int (nI n)]) (st := [.ref (31 + 3 * i)]) X (k_hashOf l q (hY.sm z1 hb1 hr1) hn0 hfn) (dk D_Ms_addOnTop 15 rfl) G_Ms_69 K_Ms_hashOf S_Ms_hashOf rfl rfl (Nat.le_of_ble_eq_true rfl) (Nat.le_of_ble_eq_true rfl) (Nat.le_of_ble_eq_true rfl) (Nat.le_of_ble_eq_true rfl) (Nat.le_of_ble_eq_true rfl) ?_
  rintro v w ⟨rfl, hw⟩
  rw [hw]
  show Vv _ _ _ _ _ _ _ _ _ _ _ _ _ _ _ [.int (hsh ((xs.drop f).take n)), .ref (31 + 3 * i)] (0, 0, (xR g 25 5 (gR g (31 + 3 * i) 4)))
  refine v_putI X (dk D_Ms_addOnTop 16 rfl) F_Ms_76 CK_Me rfl (kdM i hi).1 (hS.lt (by omega)) rfl rfl ?_
  refine v_aload_n X (dk D_Ms_addOnTop 17 rfl) rfl ?_
  refine v_getF X (dk D_Ms_addOnTop 18 rfl) F_Ms_16 rfl rfl (hS.lt (by decide)) (hS.2 25 0) ?_
  refine v_aload X (dk D_Ms_addOnTop 19 rfl) rfl ?_
  refine v_getF X (dk D_Ms_addOnTop 20 rfl) F_Ms_48 rfl (kdM i hi).1 (hS.lt (by omega)) ((hS.2 _ 0).trans (fRM hi).1) ?_
  refine v_aload_n X (dk D_Ms_addOnTop 21 rfl) rfl ?_
  refine v_iload_n X (dk D_Ms_addOnTop 22 rfl) rfl ?_
  refine v_iload_n X (dk D_Ms_addOnTop 23 rfl) rfl ?_
  refine v_invV (As := [.ref (32 + 3 * i), .ref b, .int (nI f), .int (nI n)]) (st := []) X (k_Ce_add l q hW2 (SM_1 hi) (hY.sm z2 hb2 hr2) (fun j hj => hxb _ (getD_mem hj)) hfree hfn (by omega)) (dk D_Ms_addOnTop 24 rfl) G_Ms_93 K_Ce_add V_Ce_add rfl rfl ((hS.sm z2).lt (by decide)) rfl rfl (Nat.le_of_ble_eq_true rfl) (Nat.le_of_ble_eq_true rfl) (Nat.le_of_ble_eq_true rfl) (Nat.le_of_ble_eq_true rfl) (Nat.le_of_ble_eq_true rfl) ?_
  rintro v w ⟨rfl, hw⟩
  rw [if_pos hroom] at hw
  obtain ⟨y1, ps, fl2, fr2, y2, y3, y4, y5⟩ := hw
  have S3 := (hS.sm z2).sm y1
  show Vv _ _ _ _ _ _ _ _ _ _ _ _ _ _ _ [.int _] (0, 0, w.2.2)
  refine v_pop X (dk D_Ms_addOnTop 25 rfl) rfl ?_
  refine v_aload X (dk D_Ms_addOnTop 26 rfl) rfl ?_
  refine v_getI X (dk D_Ms_addOnTop 27 rfl) F_Ms_76 rfl (kdM i hi).1 (S3.lt (by omega)) ?_
  rw [show gI w.2.2 (31 + 3 * i) 3 = (hsh ((xs.drop f).take n)) from (y1.I (by simp; omega) 3).trans (gI_eq _ _ _ _)]
  refine v_invS (As := [.int (hsh ((xs.drop f).take n))]) (st := []) X (k_bucketOf l q (h := (hsh ((xs.drop f).take n))) (g := w.2.2)) (dk D_Ms_addOnTop 28 rfl) G_Ms_73 K_Ms_bucketOf S_Ms_bucketOf rfl rfl (Nat.le_of_ble_eq_true rfl) (Nat.le_of_ble_eq_true rfl) (Nat.le_of_ble_eq_true rfl) (Nat.le_of_ble_eq_true rfl) (Nat.le_of_ble_eq_true rfl) ?_
  rintro v w4 ⟨rfl, hw⟩
  rw [hw, hk2]
  show Vv _ _ _ _ _ _ _ _ _ _ _ _ _ _ _ [.int (nI k)] (0, 0, w.2.2)
  refine v_istore (lb := [some (.ref 25), some (.ref b), some (.int (nI f)), some (.int (nI n)), some (.ref (31 + 3 * i)), some (.int (nI k))]) X (dk D_Ms_addOnTop 29 rfl) (by decide) rfl ?_
  refine v_aload X (dk D_Ms_addOnTop 30 rfl) rfl ?_
  refine v_aload_n X (dk D_Ms_addOnTop 31 rfl) rfl ?_
  refine v_getF X (dk D_Ms_addOnTop 32 rfl) F_Ms_22 rfl rfl (S3.lt (by decide)) (S3.2 25 3) ?_
  refine v_iload X (dk D_Ms_addOnTop 33 rfl) rfl ?_
  refine v_aald X (dk D_Ms_addOnTop 34 rfl) rfl rfl (by decide) (S3.lt (by decide)) (vp_in_nI hk1 (by decide)) (by rw [nI_clamp (by omega)]) ?_
  refine v_putR (r := gR w.2.2 29 k) X (dk D_Ms_addOnTop 35 rfl) F_Ms_60 CK_Me rfl (kdM i hi).1 (S3.lt (by omega)) ⟨_, rfl⟩ ?_
  refine v_aload_n X (dk D_Ms_addOnTop 36 rfl) rfl ?_
  refine v_getF X (dk D_Ms_addOnTop 37 rfl) F_Ms_22 rfl rfl (S3.lt (by decide)) (S3.2 25 3) ?_
  refine v_iload X (dk D_Ms_addOnTop 38 rfl) rfl ?_
  refine v_aload X (dk D_Ms_addOnTop 39 rfl) rfl ?_
  refine v_aast (r := ("RescanMill$Meaning", _, _)) X (dk D_Ms_addOnTop 40 rfl) rfl rfl (by decide) (S3.lt (by decide)) (vp_in_nI hk1 (by decide)) (kdM i hi).1 rfl (S3.lt (by omega)) ?_
  rw [nI_clamp (by omega)]
  refine v_aload X (dk D_Ms_addOnTop 41 rfl) rfl ?_
  exact v_aret (r := some (31 + 3 * i)) X hlk hrt (Or.inl ⟨_, rfl⟩) (dk D_Ms_addOnTop 42 rfl) ⟨rfl, ((z2.tr y1 (U := UU i) (by simp [UU]) (by simp [UU])).xR (by simp [UU])).xR (by simp [UU]), n_addOnTop hM hN hk1 hk2 (fun x hx => hxb x (List.mem_of_mem_drop (List.mem_of_mem_take hx))) y1 y2 (y4.trans (congrArg (· ++ _) (bys_sm z2 (by simp; omega)))) (fun j hj hne => (y5 j hj hne).trans (bys_sm z2 (by simp; omega)))⟩
