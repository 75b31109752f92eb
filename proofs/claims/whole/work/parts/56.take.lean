/-! Meanings: take -/
set_option maxHeartbeats 4000000 in
set_option maxRecDepth 100000 in
theorem k_take (l : Launch) (q : ev_T) {P : Mng} {df db : Nat} {b r0 n0 f n : Nat} {xs : List Int32} {ov all : Bool} {g : mu_T} (hS : Shp g) (hP : MP g P df db) (hY : RB g b r0 n0 xs ov) (hn0 : n0 < 1073741824) (hb : b < 25) (hr : r0 < 25) (hfn : f + n ≤ xs.length) (hxb : ∀ x ∈ xs, isByte x) : Ctr l q M_Ms_take 3 [.ref 25, .ref b, .int (nI f), .int (nI n), .int (if all = true then 1 else 0)] (0, 0, g) (fun v w => v = none ∧ sm g w.2.2 MA ∧ MP w.2.2 (pu P ((xs.drop f).take n) ((P ((xs.drop f).take n)).drop (if all = true then (P ((xs.drop f).take n)).length else 1))) (unA ((xs.drop f).take n) (if all = true then (P ((xs.drop f).take n)) else (P ((xs.drop f).take n)).take 1) (df, db)).1 (unA ((xs.drop f).take n) (if all = true then (P ((xs.drop f).take n)) else (P ((xs.drop f).take n)).take 1) (df, db)).2) := by
  obtain ⟨bk, sp, N, T, B, n9, b9, hM, hC, h1, h2, hdf, hdb, hP⟩ := hP
  obtain ⟨k, hk1, hk2⟩ := and127 (hsh ((xs.drop f).take n))
  refine Ctr.mk (lb := [some (.ref 25), some (.ref b), some (.int (nI f)), some (.int (nI n)), some (.int (if all = true then 1 else 0)), none, none, none, none, none]) (by decide +kernel) (Nat.le_of_ble_eq_true rfl) rfl rfl ?_
  intro pp ee ss mm aa bb mt cd X hrt hlk hnm
  have loop : ∀ (is ks : List Nat) (bf : Option Nat) (u : mu_T) (bk : Nat → List Nat) (sp : List Nat) (N T : Nat → List Int32) (B : Nat → Option Nat) (d e n9 b9 : Nat) (rem : List (Option Nat × List Int32)), Shp u → sm g u MA → MS u bk sp N T B d e → MC sp N T B d e n9 b9 → n9 ≤ 17 → b9 ≤ 128 → bk k = ks ++ is → (∀ j ∈ ks, N j ≠ ((xs.drop f).take n)) → ((bf = none ∧ ks = []) ∨ ∃ ps b, ks = ps ++ [b] ∧ bf = some (31 + 3 * b)) → P ((xs.drop f).take n) = rem ++ BF bk N T B k ((xs.drop f).take n) → (d, e) = unA ((xs.drop f).take n) rem (df, db) → (all = false → rem = []) → (∀ nm k1, k1 < 128 → hsh nm &&& 127 = nI k1 → nm ≠ ((xs.drop f).take n) → P nm = BF bk N T B k1 nm) → Vv pp l ee (rmT 3 0 0) ss mm aa bb mt cd 10 q (MQ bb (Qw q (fun v w => v = none ∧ sm g w.2.2 MA ∧ MP w.2.2 (pu P ((xs.drop f).take n) ((P ((xs.drop f).take n)).drop (if all = true then (P ((xs.drop f).take n)).length else 1))) (unA ((xs.drop f).take n) (if all = true then (P ((xs.drop f).take n)) else (P ((xs.drop f).take n)).take 1) (df, db)).1 (unA ((xs.drop f).take n) (if all = true then (P ((xs.drop f).take n)) else (P ((xs.drop f).take n)).take 1) (df, db)).2)) aa ss 0 0 (fun a => q.1 ≤ a)) 27 [some (.ref 25), some (.ref b), some (.int (nI f)), some (.int (nI n)), some (.int (if all = true then 1 else 0)), some (.int (hsh ((xs.drop f).take n))), some (.int (nI k)), some (va_rf bf), some (va_rf (hdM is)), none] [] (0, 0, u) := by
    intro is
    induction is with
    | nil =>
      intro ks bf u bk sp N T B d e n9 b9 rem hSu zu hMu hC h1 h2 hbk hks hbf hPn hde hrm ho
      have hBF : BF bk N T B k ((xs.drop f).take n) = [] := by rw [BF, hbk, List.append_nil, flt_nil hks]; rfl
      rw [hBF, List.append_nil] at hPn
      have hA : (if all = true then (P ((xs.drop f).take n)) else (P ((xs.drop f).take n)).take 1) = rem := by
        cases all with
        | true => exact hPn
        | false => have := hrm rfl; subst this; rw [hPn]; rfl
      have hB : (P ((xs.drop f).take n)).drop (if all = true then (P ((xs.drop f).take n)).length else 1) = BF bk N T B k ((xs.drop f).take n) := by
        rw [hBF]
        cases all with
        | true => exact List.drop_length
        | false => have := hrm rfl; subst this; rw [hPn]; rfl
      refine v_aloadN X (dk D_Ms_take 15 rfl) rfl ?_
      refine v_ifnullN (tgt := 111) X (dk D_Ms_take 16 rfl) (by decide) ?_
      exact v_vret X hlk hrt (dk D_Ms_take 54 rfl) ⟨rfl, zu, tk_fin hMu hC h1 h2 hdf hdb hk2 hk1 hde ho hA hB⟩
    | cons i is ih =>
      intro ks bf u bk sp N T B d e n9 b9 rem hSu zu hMu hC h1 h2 hbk hks hbf hPn hde hrm ho
      have hYu := hY.sm zu (by rw [MA_mem]; omega) (by rw [MA_mem]; omega)
      have hin : ∀ j ∈ i :: is, j ∈ bk k := fun j hj => by rw [hbk]; exact List.mem_append_right _ hj
      have hi := (hMu.2.2.2.2.2.1 k hk1 i (hin i (List.mem_cons_self ..))).1
      have his : ∀ j ∈ is, j < 317 := fun j hj => (hMu.2.2.2.2.2.1 k hk1 j (hin j (List.mem_cons_of_mem _ hj))).1
      obtain ⟨ch, cn, cm⟩ := hMu.mn
      have hMN := cm k hk1 i (hin i (List.mem_cons_self ..))
      have z0 := sm.rf u [29]
      refine v_aload X (dk D_Ms_take 15 rfl) rfl ?_
      refine v_ifnull X (dk D_Ms_take 16 rfl) ?_
      refine v_aload X (dk D_Ms_take 17 rfl) rfl ?_
      refine v_getR X (dk D_Ms_take 18 rfl) F_Ms_60 rfl (kdM i hi).1 (hSu.lt (by omega)) (MS_nx hMu hk1 hbk) ?_
      refine v_astoreR (lb := [some (.ref 25), some (.ref b), some (.int (nI f)), some (.int (nI n)), some (.int (if all = true then 1 else 0)), some (.int (hsh ((xs.drop f).take n))), some (.int (nI k)), some (va_rf bf), some (.ref (31 + 3 * i)), some (va_rf (hdM is))]) X (dk D_Ms_take 19 rfl) (by decide) rfl ?_
      refine v_aload X (dk D_Ms_take 20 rfl) rfl ?_
      refine v_getI X (dk D_Ms_take 21 rfl) F_Ms_76 rfl (kdM i hi).1 (hSu.lt (by omega)) ?_
      refine v_iload X (dk D_Ms_take 22 rfl) rfl ?_
      refine v_icmp_ne (tgt := 61) X (dk D_Ms_take 23 rfl) (by decide) (fun c46 => ?_) (fun c46 => ?_)
      · refine v_aload X (dk D_Ms_take 31 rfl) rfl ?_
        refine v_astore (lb := [some (.ref 25), some (.ref b), some (.int (nI f)), some (.int (nI n)), some (.int (if all = true then 1 else 0)), some (.int (hsh ((xs.drop f).take n))), some (.int (nI k)), some (.ref (31 + 3 * i)), some (.ref (31 + 3 * i)), some (va_rf (hdM is))]) X (dk D_Ms_take 32 rfl) (by decide) rfl ?_
        refine v_goto (tgt := 104) X (dk D_Ms_take 33 rfl) (by decide) ?_
        refine v_aloadR X (dk D_Ms_take 51 rfl) rfl ?_
        refine v_astoreR (lb := [some (.ref 25), some (.ref b), some (.int (nI f)), some (.int (nI n)), some (.int (if all = true then 1 else 0)), some (.int (hsh ((xs.drop f).take n))), some (.int (nI k)), some (.ref (31 + 3 * i)), some (va_rf (hdM is)), some (va_rf (hdM is))]) X (dk D_Ms_take 52 rfl) (by decide) (by first | rfl | (cases bf <;> rfl)) ?_
        refine v_goto (tgt := 27) X (dk D_Ms_take 53 rfl) (by decide) ?_
        exact v_weak (la := [some (.ref 25), some (.ref b), some (.int (nI f)), some (.int (nI n)), some (.int (if all = true then 1 else 0)), some (.int (hsh ((xs.drop f).take n))), some (.int (nI k)), some (.ref (31 + 3 * i)), some (va_rf (hdM is)), none]) ⟨rfl, rfl, rfl, rfl, rfl, rfl, rfl, rfl, rfl, trivial⟩ (ih (ks ++ [i]) (some (31 + 3 * i)) u bk sp N T B d e n9 b9 rem hSu zu hMu hC h1 h2 (by rw [hbk, List.append_assoc]; rfl) (fun j hj => by rcases List.mem_append.mp hj with hj | hj; exact hks j hj; rw [List.mem_singleton.mp hj]; exact fun e => c46 (by rw [hMN.2.2.2.2.2, cn i hi, e])) (Or.inr ⟨ks, i, rfl, rfl⟩) hPn hde hrm ho)
      · refine v_aload_n X (dk D_Ms_take 24 rfl) rfl ?_
        refine v_aload X (dk D_Ms_take 25 rfl) rfl ?_
        refine v_aload_n X (dk D_Ms_take 26 rfl) rfl ?_
        refine v_iload_n X (dk D_Ms_take 27 rfl) rfl ?_
        refine v_iload_n X (dk D_Ms_take 28 rfl) rfl ?_
        refine v_invV (As := [.ref (31 + 3 * i), .ref b, .int (nI f), .int (nI n)]) (st := []) X (k_isNamed l q hSu hMN.1 hMN.2.1 hMN.2.2.1 hMN.2.2.2.1 hMN.2.2.2.2.1 hxb hYu hn0 hfn) (dk D_Ms_take 29 rfl) G_Ms_79 K_Ms_isNamed V_Ms_isNamed rfl rfl (hSu.lt (by decide)) rfl rfl (Nat.le_of_ble_eq_true rfl) (Nat.le_of_ble_eq_true rfl) (Nat.le_of_ble_eq_true rfl) (Nat.le_of_ble_eq_true rfl) (Nat.le_of_ble_eq_true rfl) ?_
        rintro v w ⟨rfl, hw⟩
        rw [hw, cn i hi]
        show Vv _ _ _ _ _ _ _ _ _ _ _ _ _ _ _ [.int (if N i = ((xs.drop f).take n) then 1 else 0)] (0, 0, u)
        refine v_if_ne (tgt := 68) X (dk D_Ms_take 30 rfl) (by decide) (fun c58 => ?_) (fun c58 => ?_)
        · have hn : N i = ((xs.drop f).take n) := Decidable.byContradiction (fun e => c58 (if_neg e))
          obtain ⟨-, t2, t3, t4, ⟨nb2, bb2, q1, q2, hC2⟩, t6, t7, t8⟩ := tk_step hMu hC hk1 hbk hn hks
          have hno : i ∉ ks := fun h => by have := (hMu.2.2.2.2.2.2.2.2.1 k hk1).1; rw [hbk] at this; exact (List.nodup_append.mp this).2.2 i h i (by simp) rfl
          have mid : ∀ u2 : mu_T, Shp u2 → sm g u2 MA → MS u2 (va_up bk k (ks ++ is)) sp N T B d e → Vv pp l ee (rmT 3 0 0) ss mm aa bb mt cd 10 q (MQ bb (Qw q (fun v w => v = none ∧ sm g w.2.2 MA ∧ MP w.2.2 (pu P ((xs.drop f).take n) ((P ((xs.drop f).take n)).drop (if all = true then (P ((xs.drop f).take n)).length else 1))) (unA ((xs.drop f).take n) (if all = true then (P ((xs.drop f).take n)) else (P ((xs.drop f).take n)).take 1) (df, db)).1 (unA ((xs.drop f).take n) (if all = true then (P ((xs.drop f).take n)) else (P ((xs.drop f).take n)).take 1) (df, db)).2)) aa ss 0 0 (fun a => q.1 ≤ a)) 92 [some (.ref 25), some (.ref b), some (.int (nI f)), some (.int (nI n)), some (.int (if all = true then 1 else 0)), some (.int (hsh ((xs.drop f).take n))), some (.int (nI k)), some (va_rf bf), some (.ref (31 + 3 * i)), some (va_rf (hdM is))] [] (0, 0, u2) := by
            intro u2 hS2 z2 hM2
            refine v_aload_n X (dk D_Ms_take 45 rfl) rfl ?_
            refine v_aload X (dk D_Ms_take 46 rfl) rfl ?_
            refine v_invV (As := [.ref (31 + 3 * i)]) (st := []) X (k_releaseM l q hS2 hM2 hi t3 t2 t4) (dk D_Ms_take 47 rfl) G_Ms_125 K_Ms_release V_Ms_release rfl rfl (hS2.lt (by decide)) rfl rfl (Nat.le_of_ble_eq_true rfl) (Nat.le_of_ble_eq_true rfl) (Nat.le_of_ble_eq_true rfl) (Nat.le_of_ble_eq_true rfl) (Nat.le_of_ble_eq_true rfl) ?_
            rintro v w ⟨rfl, y1, y2⟩
            show Vv _ _ _ _ _ _ _ _ _ _ _ _ _ _ _ [] (0, 0, w.2.2)
            refine v_iload X (dk D_Ms_take 48 rfl) rfl ?_
            refine v_if_ne (tgt := 104) X (dk D_Ms_take 49 rfl) (by decide) (fun c100 => ?_) (fun c100 => ?_)
            · refine v_aloadR X (dk D_Ms_take 51 rfl) rfl ?_
              refine v_astoreR (lb := [some (.ref 25), some (.ref b), some (.int (nI f)), some (.int (nI n)), some (.int (if all = true then 1 else 0)), some (.int (hsh ((xs.drop f).take n))), some (.int (nI k)), some (va_rf bf), some (va_rf (hdM is)), some (va_rf (hdM is))]) X (dk D_Ms_take 52 rfl) (by decide) (by first | rfl | (cases bf <;> rfl)) ?_
              refine v_goto (tgt := 27) X (dk D_Ms_take 53 rfl) (by decide) ?_
              exact v_weak (la := [some (.ref 25), some (.ref b), some (.int (nI f)), some (.int (nI n)), some (.int (if all = true then 1 else 0)), some (.int (hsh ((xs.drop f).take n))), some (.int (nI k)), some (va_rf bf), some (va_rf (hdM is)), none]) ⟨rfl, rfl, rfl, rfl, rfl, rfl, rfl, rfl, rfl, trivial⟩ (ih ks bf w.2.2 _ _ _ _ _ _ _ _ _ (rem ++ [(B i, T i)]) (hS2.sm y1) (z2.tr y1 (U := MA) (fun _ h => h) (fun _ h => h)) y2 hC2 (by omega) (by omega) up_eq (fun j hj => by rw [up_ne (fun e => hno (by rw [← e]; simp [hj]))]; exact hks j hj) hbf (by rw [hPn, t7, List.append_assoc]; rfl) (by rw [unA_app, ← hde]; exact t6) (fun e => absurd e (by intro e; rw [e] at c100; exact c100 rfl)) (fun nm k1 k2 k3 k4 => (ho nm k1 k2 k3 k4).trans (t8 nm k1 k2 k4).symm))
            · have hal : all = false := by cases all with | false => rfl | true => exact absurd c100 (by decide)
              exact v_vret X hlk hrt (dk D_Ms_take 50 rfl) ⟨rfl, (z2.tr y1 (U := MA) (fun _ h => h) (fun _ h => h)), tk_fin (rem := [(B i, T i)]) y2 hC2 (by omega) (by omega) hdf hdb hk2 hk1 (by have := hrm hal; subst this; rw [t6, hde]; rfl) (fun nm k1 k2 k3 k4 => (ho nm k1 k2 k3 k4).trans (t8 nm k1 k2 k4).symm) (by have := hrm hal; subst this; rw [hPn, List.nil_append, t7, hal]; rfl) (by have := hrm hal; subst this; rw [hPn, List.nil_append, t7, hal]; rfl)⟩
          rcases hbf with ⟨rfl, rfl⟩ | ⟨ps, b0, rfl, rfl⟩
          · have MU := MS_unl0 hMu hk1 hbk
            rw [MS_nx hMu hk1 hbk] at MU
            refine v_aloadN X (dk D_Ms_take 34 rfl) rfl ?_
            refine v_ifnonnullN X (dk D_Ms_take 35 rfl) ?_
            refine v_aload_n X (dk D_Ms_take 36 rfl) rfl ?_
            refine v_getF X (dk D_Ms_take 37 rfl) F_Ms_22 rfl rfl (hSu.lt (by decide)) (hSu.2 25 3) ?_
            refine v_iload X (dk D_Ms_take 38 rfl) rfl ?_
            refine v_aloadR X (dk D_Ms_take 39 rfl) rfl ?_
            refine v_aastM X (dk D_Ms_take 40 rfl) (by have := hSu.lt (show 981 < 1022 by decide); omega) (vp_in_nI hk1 (by decide)) (hdM_or his) ?_
            rw [nI_clamp (by omega)]
            refine v_goto (tgt := 92) X (dk D_Ms_take 41 rfl) (by decide) ?_
            exact mid _ (hSu.sm (z0.xR (by simp))) (zu.xR (MA_mem.mpr (by omega))) MU
          · have hbk2 : bk k = ps ++ b0 :: i :: is := by rw [hbk, List.append_assoc]; rfl
            have hb0 := (hMu.2.2.2.2.2.1 k hk1 b0 (by rw [hbk2]; simp)).1
            have MU := MS_unl1 hMu hk1 hbk2
            rw [MS_nx hMu hk1 hbk, show ps ++ b0 :: is = ps ++ [b0] ++ is from by simp] at MU
            have z1 := sm.rf u [31 + 3 * b0]
            refine v_aload X (dk D_Ms_take 34 rfl) rfl ?_
            refine v_ifnonnull (tgt := 85) X (dk D_Ms_take 35 rfl) (by decide) ?_
            refine v_aload X (dk D_Ms_take 42 rfl) rfl ?_
            refine v_aloadR X (dk D_Ms_take 43 rfl) rfl ?_
            refine v_putR (r := hdM is) X (dk D_Ms_take 44 rfl) F_Ms_60 CK_Me rfl (kdM b0 hb0).1 (hSu.lt (by omega)) ⟨_, rfl⟩ ?_
            exact mid _ (hSu.sm (z1.xR (by simp))) (zu.xR (MA_mem.mpr (by omega))) MU
        · refine v_aload X (dk D_Ms_take 31 rfl) rfl ?_
          refine v_astore (lb := [some (.ref 25), some (.ref b), some (.int (nI f)), some (.int (nI n)), some (.int (if all = true then 1 else 0)), some (.int (hsh ((xs.drop f).take n))), some (.int (nI k)), some (.ref (31 + 3 * i)), some (.ref (31 + 3 * i)), some (va_rf (hdM is))]) X (dk D_Ms_take 32 rfl) (by decide) rfl ?_
          refine v_goto (tgt := 104) X (dk D_Ms_take 33 rfl) (by decide) ?_
          refine v_aloadR X (dk D_Ms_take 51 rfl) rfl ?_
          refine v_astoreR (lb := [some (.ref 25), some (.ref b), some (.int (nI f)), some (.int (nI n)), some (.int (if all = true then 1 else 0)), some (.int (hsh ((xs.drop f).take n))), some (.int (nI k)), some (.ref (31 + 3 * i)), some (va_rf (hdM is)), some (va_rf (hdM is))]) X (dk D_Ms_take 52 rfl) (by decide) (by first | rfl | (cases bf <;> rfl)) ?_
          refine v_goto (tgt := 27) X (dk D_Ms_take 53 rfl) (by decide) ?_
          exact v_weak (la := [some (.ref 25), some (.ref b), some (.int (nI f)), some (.int (nI n)), some (.int (if all = true then 1 else 0)), some (.int (hsh ((xs.drop f).take n))), some (.int (nI k)), some (.ref (31 + 3 * i)), some (va_rf (hdM is)), none]) ⟨rfl, rfl, rfl, rfl, rfl, rfl, rfl, rfl, rfl, trivial⟩ (ih (ks ++ [i]) (some (31 + 3 * i)) u bk sp N T B d e n9 b9 rem hSu zu hMu hC h1 h2 (by rw [hbk, List.append_assoc]; rfl) (fun j hj => by rcases List.mem_append.mp hj with hj | hj; exact hks j hj; rw [List.mem_singleton.mp hj]; exact fun e => absurd c58 (by rw [if_pos e]; decide)) (Or.inr ⟨ks, i, rfl, rfl⟩) hPn hde hrm ho)
  refine v_aload_n X (dk D_Ms_take 0 rfl) rfl ?_
  refine v_iload_n X (dk D_Ms_take 1 rfl) rfl ?_
  refine v_iload_n X (dk D_Ms_take 2 rfl) rfl ?_
  refine v_invS (As := [.ref b, .int (nI f), .int (nI n)]) (st := []) X (k_hashOf l q hY hn0 hfn) (dk D_Ms_take 3 rfl) G_Ms_69 K_Ms_hashOf S_Ms_hashOf rfl rfl (Nat.le_of_ble_eq_true rfl) (Nat.le_of_ble_eq_true rfl) (Nat.le_of_ble_eq_true rfl) (Nat.le_of_ble_eq_true rfl) (Nat.le_of_ble_eq_true rfl) ?_
  rintro v w ⟨rfl, hw⟩
  rw [hw]
  show Vv _ _ _ _ _ _ _ _ _ _ _ _ _ _ _ [.int (hsh ((xs.drop f).take n))] (0, 0, g)
  refine v_istore (lb := [some (.ref 25), some (.ref b), some (.int (nI f)), some (.int (nI n)), some (.int (if all = true then 1 else 0)), some (.int (hsh ((xs.drop f).take n))), none, none, none, none]) X (dk D_Ms_take 4 rfl) (by decide) rfl ?_
  refine v_iload X (dk D_Ms_take 5 rfl) rfl ?_
  refine v_invS (As := [.int (hsh ((xs.drop f).take n))]) (st := []) X (k_bucketOf l q (h := (hsh ((xs.drop f).take n))) (g := g)) (dk D_Ms_take 6 rfl) G_Ms_73 K_Ms_bucketOf S_Ms_bucketOf rfl rfl (Nat.le_of_ble_eq_true rfl) (Nat.le_of_ble_eq_true rfl) (Nat.le_of_ble_eq_true rfl) (Nat.le_of_ble_eq_true rfl) (Nat.le_of_ble_eq_true rfl) ?_
  rintro v w ⟨rfl, hw⟩
  rw [hw, hk2]
  show Vv _ _ _ _ _ _ _ _ _ _ _ _ _ _ _ [.int (nI k)] (0, 0, g)
  refine v_istore (lb := [some (.ref 25), some (.ref b), some (.int (nI f)), some (.int (nI n)), some (.int (if all = true then 1 else 0)), some (.int (hsh ((xs.drop f).take n))), some (.int (nI k)), none, none, none]) X (dk D_Ms_take 7 rfl) (by decide) rfl ?_
  refine v_null X (dk D_Ms_take 8 rfl) ?_
  refine v_astoreN (lb := [some (.ref 25), some (.ref b), some (.int (nI f)), some (.int (nI n)), some (.int (if all = true then 1 else 0)), some (.int (hsh ((xs.drop f).take n))), some (.int (nI k)), some (va_rf none), none, none]) X (dk D_Ms_take 9 rfl) (by decide) rfl ?_
  refine v_aload_n X (dk D_Ms_take 10 rfl) rfl ?_
  refine v_getF X (dk D_Ms_take 11 rfl) F_Ms_22 rfl rfl (hS.lt (by decide)) (hS.2 25 3) ?_
  refine v_iload X (dk D_Ms_take 12 rfl) rfl ?_
  refine v_aald (r := hdM (bk k)) X (dk D_Ms_take 13 rfl) rfl rfl (by decide) (hS.lt (by decide)) (vp_in_nI hk1 (by decide)) (by rw [nI_clamp (by omega)]; exact rlk_hd (hM.2.2.2.1 k hk1)) ?_
  refine v_astoreR (lb := [some (.ref 25), some (.ref b), some (.int (nI f)), some (.int (nI n)), some (.int (if all = true then 1 else 0)), some (.int (hsh ((xs.drop f).take n))), some (.int (nI k)), some (va_rf none), some (va_rf (hdM (bk k))), none]) X (dk D_Ms_take 14 rfl) (by decide) rfl ?_
  exact loop (bk k) [] none g bk sp N T B df db n9 b9 [] hS (sm.rf _ _) hM hC h1 h2 rfl (fun j hj => absurd hj List.not_mem_nil) (Or.inl ⟨rfl, rfl⟩) (hP _ k hk1 hk2) rfl (fun _ => rfl) (fun nm k1 a c _ => hP nm k1 a c)
