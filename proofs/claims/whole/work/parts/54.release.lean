/-! Meanings: release -/
set_option maxHeartbeats 4000000 in
set_option maxRecDepth 100000 in
theorem k_releaseM (l : Launch) (q : ev_T) {bk : Nat → List Nat} {sp : List Nat} {N T : Nat → List Int32} {B : Nat → Option Nat} {df db : Nat} {i : Nat} {g : mu_T} (hS : Shp g) (hM : MS g bk sp N T B df db) (hi : i < 317) (hb : ∀ k, k < 128 → i ∉ bk k) (hs : i ∉ sp) (hd : B i = none → 1 ≤ df ∧ (N i).length + (T i).length ≤ db) : Ctr l q M_Ms_release 2 [.ref 25, .ref (31 + 3 * i)] (0, 0, g) (fun v w => v = none ∧ sm g w.2.2 MA ∧ MS w.2.2 bk (i :: sp) (va_up N i []) (va_up T i []) (va_up B i none) (if B i = none then df - 1 else df) (if B i = none then db - ((N i).length + (T i).length) else db)) := by
  obtain ⟨h1, h2, ⟨ch, fl, fr, hW, hN⟩, -⟩ := id hM
  have e1 : gI g (32 + 3 * i) 2 = nI (N i).length := by rw [(hW.2.2.2.1 _ (SM_1 hi)).2.1, ← (hN i hi).1, bys, List.length_map]
  have e2 : gI g (33 + 3 * i) 2 = nI (T i).length := by rw [(hW.2.2.2.1 _ (SM_2 hi)).2.1, ← (hN i hi).2, bys, List.length_map]
  have zc : sm g (xI (xI g 25 1 (nI (df - 1))) 25 2 (nI (db - ((N i).length + (T i).length)))) [25] := ((sm.rf g _).xI (by simp)).xI (by simp)
  refine Ctr.mk (lb := [some (.ref 25), some (.ref (31 + 3 * i))]) (by decide +kernel) (Nat.le_of_ble_eq_true rfl) rfl rfl ?_
  intro pp ee ss mm aa bb mt cd X hrt hlk hnm
  have tail : ∀ u : mu_T, Shp u → MS u bk sp N T B (if B i = none then df - 1 else df) (if B i = none then db - ((N i).length + (T i).length) else db) → sm g u MA → Vv pp l ee (rmT 2 0 0) ss mm aa bb mt cd 2 q (MQ bb (Qw q (fun v w => v = none ∧ sm g w.2.2 MA ∧ MS w.2.2 bk (i :: sp) (va_up N i []) (va_up T i []) (va_up B i none) (if B i = none then df - 1 else df) (if B i = none then db - ((N i).length + (T i).length) else db))) aa ss 0 0 (fun a => q.1 ≤ a)) 41 [some (.ref 25), some (.ref (31 + 3 * i))] [] (0, 0, u) := by
    intro u hSu hMu zu
    obtain ⟨-, -, ⟨ch, fl, fr, hW, hN⟩, -⟩ := id hMu
    refine v_aload_n X (dk D_Ms_release 21 rfl) rfl ?_
    refine v_getF X (dk D_Ms_release 22 rfl) F_Ms_16 rfl rfl (hSu.lt (by decide)) (hSu.2 25 0) ?_
    refine v_aload_n X (dk D_Ms_release 23 rfl) rfl ?_
    refine v_getF X (dk D_Ms_release 24 rfl) F_Ms_48 rfl (kdM i hi).1 (hSu.lt (by omega)) ((hSu.2 _ 0).trans (fRM hi).1) ?_
    refine v_invV (As := [.ref (32 + 3 * i)]) (st := []) X (k_Ce_release l q hW (SM_1 hi)) (dk D_Ms_release 25 rfl) G_Ms_121 K_Ce_release V_Ce_release rfl rfl (hSu.lt (by decide)) rfl rfl (Nat.le_of_ble_eq_true rfl) (Nat.le_of_ble_eq_true rfl) (Nat.le_of_ble_eq_true rfl) (Nat.le_of_ble_eq_true rfl) (Nat.le_of_ble_eq_true rfl) ?_
    rintro v w1 ⟨rfl, y1, y2⟩
    have S2 := hSu.sm y1
    have M2 := MS_clN hMu hN hb y1 y2
    obtain ⟨-, -, ⟨ch2, fl2, fr2, hW2, hN2⟩, -⟩ := id M2
    show Vv _ _ _ _ _ _ _ _ _ _ _ _ _ _ _ [] (0, 0, w1.2.2)
    refine v_aload_n X (dk D_Ms_release 26 rfl) rfl ?_
    refine v_getF X (dk D_Ms_release 27 rfl) F_Ms_16 rfl rfl (S2.lt (by decide)) (S2.2 25 0) ?_
    refine v_aload_n X (dk D_Ms_release 28 rfl) rfl ?_
    refine v_getF X (dk D_Ms_release 29 rfl) F_Ms_57 rfl (kdM i hi).1 (S2.lt (by omega)) ((S2.2 _ 1).trans (fRM hi).2) ?_
    refine v_invV (As := [.ref (33 + 3 * i)]) (st := []) X (k_Ce_release l q hW2 (SM_2 hi)) (dk D_Ms_release 30 rfl) G_Ms_121 K_Ce_release V_Ce_release rfl rfl (S2.lt (by decide)) rfl rfl (Nat.le_of_ble_eq_true rfl) (Nat.le_of_ble_eq_true rfl) (Nat.le_of_ble_eq_true rfl) (Nat.le_of_ble_eq_true rfl) (Nat.le_of_ble_eq_true rfl) ?_
    rintro v w2 ⟨rfl, y3, y4⟩
    have S3 := S2.sm y3
    have M3 := MS_setT M2 hN2 (t := []) (fun _ => rfl) (fun x hx => absurd hx List.not_mem_nil) (y3.mono (fun a ha => by simp at ha ⊢; omega)) y4 rfl (fun j hj hne => bys_sm y3 (by simp; omega))
    show Vv _ _ _ _ _ _ _ _ _ _ _ _ _ _ _ [] (0, 0, w2.2.2)
    refine v_aload_n X (dk D_Ms_release 31 rfl) rfl ?_
    refine v_null X (dk D_Ms_release 32 rfl) ?_
    refine v_putR (r := none) X (dk D_Ms_release 33 rfl) F_Ms_102 CK_Me rfl (kdM i hi).1 (S3.lt (by omega)) ⟨_, rfl⟩ ?_
    refine v_aload_n X (dk D_Ms_release 34 rfl) rfl ?_
    refine v_aload_n X (dk D_Ms_release 35 rfl) rfl ?_
    refine v_getR X (dk D_Ms_release 36 rfl) F_Ms_44 rfl rfl (S3.lt (by decide)) rfl ?_
    refine v_putR (r := gR (xR w2.2.2 (31 + 3 * i) 2 none) 25 5) X (dk D_Ms_release 37 rfl) F_Ms_60 CK_Me rfl (kdM i hi).1 (S3.lt (by omega)) ⟨_, rfl⟩ ?_
    refine v_aload_n X (dk D_Ms_release 38 rfl) rfl ?_
    refine v_aload_n X (dk D_Ms_release 39 rfl) rfl ?_
    refine v_putR (r := some (31 + 3 * i)) X (dk D_Ms_release 40 rfl) F_Ms_44 CK_Ms rfl rfl (S3.lt (by decide)) ⟨_, rfl⟩ ?_
    exact v_vret X hlk hrt (dk D_Ms_release 41 rfl) ⟨rfl, ((((zu.tr y1 (U := MA) (fun _ h => h) (fun a ha => MA_mem.mpr (by simp at ha; omega))).tr y3 (U := MA) (fun _ h => h) (fun a ha => MA_mem.mpr (by simp at ha; omega))).xR (MA_mem.mpr (by omega))).xR (MA_mem.mpr (by omega))).xR (MA_mem.mpr (by omega)), MS_spare (MS_setB M3 hi) hi hb hs up_eq up_eq⟩
  rcases on_or (B i) with hB | ⟨x, hB⟩
  · refine v_aload_n X (dk D_Ms_release 0 rfl) rfl ?_
    refine v_getR X (dk D_Ms_release 1 rfl) F_Ms_102 rfl (kdM i hi).1 (hS.lt (by omega)) ((hM.2.2.2.2.2.2.1 i hi).trans hB) ?_
    refine v_ifnonnullN X (dk D_Ms_release 2 rfl) ?_
    refine v_aload_n X (dk D_Ms_release 3 rfl) rfl ?_
    refine v_dup X (dk D_Ms_release 4 rfl) rfl ?_
    refine v_getI X (dk D_Ms_release 5 rfl) F_Ms_37 rfl rfl (hS.lt (by decide)) ?_
    rw [h1]
    refine v_iconst (v := nI 1) X (dk D_Ms_release 6 rfl) (by decide) ?_
    refine v_isub X (dk D_Ms_release 7 rfl) ?_
    rw [pk_sub (hd hB).1]
    refine v_putI X (dk D_Ms_release 8 rfl) F_Ms_37 CK_Ms rfl rfl (hS.lt (by decide)) rfl rfl ?_
    refine v_aload_n X (dk D_Ms_release 9 rfl) rfl ?_
    refine v_dup X (dk D_Ms_release 10 rfl) rfl ?_
    refine v_getI X (dk D_Ms_release 11 rfl) F_Ms_41 rfl rfl (hS.lt (by decide)) ?_
    rw [gI_nk (by decide), h2]
    refine v_aload_n X (dk D_Ms_release 12 rfl) rfl ?_
    refine v_getF X (dk D_Ms_release 13 rfl) F_Ms_48 rfl (kdM i hi).1 (hS.lt (by omega)) ((hS.2 _ 0).trans (fRM hi).1) ?_
    refine v_getI X (dk D_Ms_release 14 rfl) F_Ms_83 rfl (kdM i hi).2.1 (hS.lt (by omega)) ?_
    rw [gI_na (by omega), e1]
    refine v_aload_n X (dk D_Ms_release 15 rfl) rfl ?_
    refine v_getF X (dk D_Ms_release 16 rfl) F_Ms_57 rfl (kdM i hi).1 (hS.lt (by omega)) ((hS.2 _ 1).trans (fRM hi).2) ?_
    refine v_getI X (dk D_Ms_release 17 rfl) F_Ms_83 rfl (kdM i hi).2.2 (hS.lt (by omega)) ?_
    rw [gI_na (by omega), e2]
    refine v_iadd X (dk D_Ms_release 18 rfl) ?_
    rw [nI_add]
    refine v_isub X (dk D_Ms_release 19 rfl) ?_
    rw [pk_sub (hd hB).2]
    refine v_putI X (dk D_Ms_release 20 rfl) F_Ms_41 CK_Ms rfl rfl (hS.lt (by decide)) rfl rfl ?_
    exact tail _ (hS.sm zc) (by rw [if_pos hB, if_pos hB]; exact MS_cnt _ _ hM) (zc.mono (fun a ha => MA_mem.mpr (by simp at ha; omega)))
  · refine v_aload_n X (dk D_Ms_release 0 rfl) rfl ?_
    refine v_getR X (dk D_Ms_release 1 rfl) F_Ms_102 rfl (kdM i hi).1 (hS.lt (by omega)) ((hM.2.2.2.2.2.2.1 i hi).trans hB) ?_
    refine v_ifnonnull (tgt := 41) X (dk D_Ms_release 2 rfl) (by decide) ?_
    exact tail _ hS (by rw [if_neg (by rw [hB]; exact fun e => by cases e), if_neg (by rw [hB]; exact fun e => by cases e)]; exact hM) (sm.rf _ _)
