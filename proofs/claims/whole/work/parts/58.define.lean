/-! Meanings: define -/
set_option maxHeartbeats 4000000 in
set_option maxRecDepth 100000 in
theorem k_defineM (l : Launch) (q : ev_T) {f : Fr} {r : List Fr} {cm onTop : Bool} {P : Mng} {df db : Nat} {g : mu_T} (hS : Shp g) (hP : MP g P df db) (hC : CA g (f :: r) cm) (hfb : ∀ x ∈ (hl (f :: r)), isByte x) : Ctr l q M_Ms_define 3 [.ref 25, .ref 17, .int (if onTop = true then 1 else 0)] (0, 0, g) (fun v w => v = some (.int (if (dfn onTop (f.2.1.getD 0 []) (f.2.1.getD 1 []) P df db).isSome = true then 1 else 0)) ∧ sm g w.2.2 MA ∧ MP w.2.2 ((dfn onTop (f.2.1.getD 0 []) (f.2.1.getD 1 []) P df db).getD (P, df, db)).1 ((dfn onTop (f.2.1.getD 0 []) (f.2.1.getD 1 []) P df db).getD (P, df, db)).2.1 ((dfn onTop (f.2.1.getD 0 []) (f.2.1.getD 1 []) P df db).getD (P, df, db)).2.2) := by
  obtain ⟨bk, sp, N, T, B, n9, b9, hM, hMC, hnb, hbb, hdf, hdb, hP⟩ := hP
  obtain ⟨k, hk1, hk2⟩ := and127 (hsh (f.2.1.getD 0 []))
  have sl0 := hl_slice (f := f) (r := r) 0
  have sl1 := hl_slice (f := f) (r := r) 1
  have le0 : stA f r 0 + (f.2.1.getD 0 []).length ≤ (hl (f :: r)).length := by have := stA_le (f := f) (r := r) (0 + 1); rw [stA_succ] at this; exact this
  have le1 : stA f r 1 + (f.2.1.getD 1 []).length ≤ (hl (f :: r)).length := by have := stA_le (f := f) (r := r) (1 + 1); rw [stA_succ] at this; exact this
  have hlen : (hl (f :: r)).length ≤ 16384 := hC.1.2.1
  have hk2s : hsh (((hl (f :: r)).drop (stA f r 0)).take (f.2.1.getD 0 []).length) &&& 127 = nI k := by rw [sl0]; exact hk2
  have hCS : ∀ a ∈ CS, a ∉ MA := fun a ha => by rw [MA_mem]; simp [CS] at ha; omega
  refine Ctr.mk (lb := [some (.ref 25), some (.ref 17), some (.int (if onTop = true then 1 else 0)), none, none, none, none, none, none]) (by decide +kernel) (Nat.le_of_ble_eq_true rfl) rfl rfl ?_
  intro pp ee ss mm aa bb mt cd X hrt hlk hnm
  have tail : ∀ (u : mu_T) (i : Nat) (bk : Nat → List Nat) (sp : List Nat) (N T : Nat → List Int32) (B : Nat → Option Nat) (P2 : Mng) (df2 db2 : Nat) (x6 x7 x8 : Int32), Shp u → sm g u MA → MS u bk sp N T B df db → i < 317 → i ∉ sp → byM N T + (f.2.1.getD 1 []).length ≤ 16512 + (T i).length → nI df + x8 = nI df2 → nI db + x7 = nI db2 → (dfn onTop (f.2.1.getD 0 []) (f.2.1.getD 1 []) P df db) = some (P2, df2, db2) → (∀ w, MS w bk sp N (va_up T i (f.2.1.getD 1 [])) (va_up B i none) df2 db2 → MP w P2 df2 db2) → Vv pp l ee (rmT 3 0 0) ss mm aa bb mt cd 9 q (MQ bb (Qw q (fun v w => v = some (.int (if (dfn onTop (f.2.1.getD 0 []) (f.2.1.getD 1 []) P df db).isSome = true then 1 else 0)) ∧ sm g w.2.2 MA ∧ MP w.2.2 ((dfn onTop (f.2.1.getD 0 []) (f.2.1.getD 1 []) P df db).getD (P, df, db)).1 ((dfn onTop (f.2.1.getD 0 []) (f.2.1.getD 1 []) P df db).getD (P, df, db)).2.1 ((dfn onTop (f.2.1.getD 0 []) (f.2.1.getD 1 []) P df db).getD (P, df, db)).2.2)) aa ss 0 0 (fun a => q.1 ≤ a)) 150 [some (.ref 25), some (.ref 17), some (.int (if onTop = true then 1 else 0)), some (.int (nI (f.2.1.getD 0 []).length)), some (.int (nI (f.2.1.getD 1 []).length)), some (.ref (31 + 3 * i)), some (.int x6), some (.int x7), some (.int x8)] [] (0, 0, u) := by
    intro u i bk sp N T B P2 df2 db2 x6 x7 x8 hSu zu hMu hi hs hrm hx8 hx7 hres hMP
    have z1 : sm u (xR u (31 + 3 * i) 2 none) [31 + 3 * i] := (sm.rf u _).xR (by simp)
    have M1 := MS_setB (x := none) hMu hi
    obtain ⟨-, -, ⟨ch, fl, fr, hW, hN⟩, -⟩ := id M1
    refine v_aload X (dk D_Ms_define 77 rfl) rfl ?_
    refine v_null X (dk D_Ms_define 78 rfl) ?_
    refine v_putR (r := none) X (dk D_Ms_define 79 rfl) F_Ms_102 CK_Me rfl (kdM i hi).1 (hSu.lt (by omega)) ⟨_, rfl⟩ ?_
    refine v_aload_n X (dk D_Ms_define 80 rfl) rfl ?_
    refine v_getF X (dk D_Ms_define 81 rfl) F_Ms_16 rfl rfl (hSu.lt (by decide)) (hSu.2 25 0) ?_
    refine v_aload X (dk D_Ms_define 82 rfl) rfl ?_
    refine v_getF X (dk D_Ms_define 83 rfl) F_Ms_57 rfl (kdM i hi).1 (hSu.lt (by omega)) ((hSu.2 _ 1).trans (fRM hi).2) ?_
    refine v_invV (As := [.ref (33 + 3 * i)]) (st := []) X (k_Ce_release l q hW (SM_2 hi)) (dk D_Ms_define 84 rfl) G_Ms_121 K_Ce_release V_Ce_release rfl rfl (hSu.lt (by decide)) rfl rfl (Nat.le_of_ble_eq_true rfl) (Nat.le_of_ble_eq_true rfl) (Nat.le_of_ble_eq_true rfl) (Nat.le_of_ble_eq_true rfl) (Nat.le_of_ble_eq_true rfl) ?_
    rintro v w1 ⟨rfl, y1, y2⟩
    have S2 := (hSu.sm z1).sm y1
    have M2 := MS_setT M1 hN (t := []) (fun _ => rfl) (fun x hx => absurd hx List.not_mem_nil) (y1.mono (fun a ha => by simp at ha ⊢; omega)) y2 rfl (fun j hj hne => bys_sm y1 (by simp; omega))
    obtain ⟨-, -, ⟨ch2, fl2, fr2, hW2, hN2⟩, -⟩ := id M2
    have zw1 : sm g w1.2.2 MA := (zu.xR (MA_mem.mpr (by omega))).tr y1 (U := MA) (fun _ h => h) (fun a ha => MA_mem.mpr (by simp at ha; omega))
    have C2 := hC.sm zw1 hCS
    have hroom : tot SM ch2 + (f.2.1.getD 1 []).length ≤ 16512 := by rw [tot_SM hN2]; have := byM_T (N := N) (T := T) (U := va_up T i []) hi (fun k hk => up_ne hk); rw [up_eq, List.length_nil] at this; omega
    show Vv _ _ _ _ _ _ _ _ _ _ _ _ _ _ _ [] (0, 0, w1.2.2)
    refine v_aload_n X (dk D_Ms_define 85 rfl) rfl ?_
    refine v_getF X (dk D_Ms_define 86 rfl) F_Ms_16 rfl rfl (S2.lt (by decide)) (S2.2 25 0) ?_
    refine v_aload X (dk D_Ms_define 87 rfl) rfl ?_
    refine v_getF X (dk D_Ms_define 88 rfl) F_Ms_57 rfl (kdM i hi).1 (S2.lt (by omega)) ((S2.2 _ 1).trans (fRM hi).2) ?_
    refine v_aload_n X (dk D_Ms_define 89 rfl) rfl ?_
    refine v_getF X (dk D_Ms_define 90 rfl) F_Ms_111 rfl rfl (S2.lt (by decide)) (S2.2 17 0) ?_
    refine v_aload_n X (dk D_Ms_define 91 rfl) rfl ?_
    refine v_iconst (v := nI 1) X (dk D_Ms_define 92 rfl) (by decide) ?_
    refine v_invV (As := [.int (nI 1)]) (st := [.ref 18, .ref (33 + 3 * i), .ref 26]) X (k_start l q (i := 1) S2 C2 (by decide)) (dk D_Ms_define 93 rfl) G_Ms_115 K_Ca_start V_Ca_start rfl rfl (S2.lt (by decide)) rfl rfl (Nat.le_of_ble_eq_true rfl) (Nat.le_of_ble_eq_true rfl) (Nat.le_of_ble_eq_true rfl) (Nat.le_of_ble_eq_true rfl) (Nat.le_of_ble_eq_true rfl) ?_
    rintro v ws ⟨rfl, hws⟩
    rw [hws]
    show Vv _ _ _ _ _ _ _ _ _ _ _ _ _ _ _ [.int (nI (stA f r 1)), .ref 18, .ref (33 + 3 * i), .ref 26] (0, 0, w1.2.2)
    refine v_iload X (dk D_Ms_define 94 rfl) rfl ?_
    refine v_invV (As := [.ref (33 + 3 * i), .ref 18, .int (nI (stA f r 1)), .int (nI (f.2.1.getD 1 []).length)]) (st := []) X (k_Ce_add l q hW2 (SM_2 hi) C2.1 (fun j hj => hfb _ (getD_mem hj)) (by constructor <;> (simp; omega)) le1 (by omega)) (dk D_Ms_define 95 rfl) G_Ms_93 K_Ce_add V_Ce_add rfl rfl (S2.lt (by decide)) rfl rfl (Nat.le_of_ble_eq_true rfl) (Nat.le_of_ble_eq_true rfl) (Nat.le_of_ble_eq_true rfl) (Nat.le_of_ble_eq_true rfl) (Nat.le_of_ble_eq_true rfl) ?_
    rintro v w2 ⟨rfl, hw⟩
    rw [if_pos hroom] at hw
    obtain ⟨y3, ps, fl3, fr3, y4, y5, y6, y7⟩ := hw
    have S3 := S2.sm y3
    have hch : ch2 (33 + 3 * i) = [] := by have := (hN2 i hi).2; rw [up_eq, bys, List.map_eq_nil_iff] at this; exact this
    have M3 := MS_setT M2 hN2 (t := (f.2.1.getD 1 [])) (fun h => absurd h hs) (fun x hx => hfb x (by rw [← sl1] at hx; exact List.mem_of_mem_drop (List.mem_of_mem_take hx))) y3 y4 (by rw [y6, hch, sl1]; rfl) y7
    rw [show va_up (va_up T i []) i (f.2.1.getD 1 []) = va_up T i (f.2.1.getD 1 []) from by funext j; by_cases e : j = i; rw [e, up_eq, up_eq]; rw [up_ne e, up_ne e, up_ne e]] at M3
    show Vv _ _ _ _ _ _ _ _ _ _ _ _ _ _ _ [.int _] (0, 0, w2.2.2)
    refine v_pop X (dk D_Ms_define 96 rfl) rfl ?_
    refine v_aload_n X (dk D_Ms_define 97 rfl) rfl ?_
    refine v_dup X (dk D_Ms_define 98 rfl) rfl ?_
    refine v_getI X (dk D_Ms_define 99 rfl) F_Ms_37 rfl rfl (S3.lt (by decide)) ?_
    rw [M3.1]
    refine v_iload X (dk D_Ms_define 100 rfl) rfl ?_
    refine v_iadd X (dk D_Ms_define 101 rfl) ?_
    rw [hx8]
    refine v_putI X (dk D_Ms_define 102 rfl) F_Ms_37 CK_Ms rfl rfl (S3.lt (by decide)) rfl rfl ?_
    refine v_aload_n X (dk D_Ms_define 103 rfl) rfl ?_
    refine v_dup X (dk D_Ms_define 104 rfl) rfl ?_
    refine v_getI X (dk D_Ms_define 105 rfl) F_Ms_41 rfl rfl (S3.lt (by decide)) ?_
    rw [gI_nk (by decide), M3.2.1]
    refine v_iload X (dk D_Ms_define 106 rfl) rfl ?_
    refine v_iadd X (dk D_Ms_define 107 rfl) ?_
    rw [hx7]
    refine v_putI X (dk D_Ms_define 108 rfl) F_Ms_41 CK_Ms rfl rfl (S3.lt (by decide)) rfl rfl ?_
    refine v_iconst (v := 1) X (dk D_Ms_define 109 rfl) (by decide) ?_
    exact v_zret X hlk hrt rfl (dk D_Ms_define 110 rfl) ⟨by rw [hres]; rfl, ((zw1.tr y3 (U := MA) (fun _ h => h) (fun a ha => MA_mem.mpr (by simp at ha; omega))).xI (MA_mem.mpr (by omega))).xI (MA_mem.mpr (by omega)), by rw [hres]; exact hMP _ (MS_cnt df2 db2 M3)⟩
  have newc : (dfn onTop (f.2.1.getD 0 []) (f.2.1.getD 1 []) P df db) = (if df < 300 ∧ db + (f.2.1.getD 0 []).length + (f.2.1.getD 1 []).length ≤ 16384 then some (pu P (f.2.1.getD 0 []) ((none, (f.2.1.getD 1 [])) :: P (f.2.1.getD 0 [])), df + 1, db + (f.2.1.getD 0 []).length + (f.2.1.getD 1 []).length) else none) → Vv pp l ee (rmT 3 0 0) ss mm aa bb mt cd 9 q (MQ bb (Qw q (fun v w => v = some (.int (if (dfn onTop (f.2.1.getD 0 []) (f.2.1.getD 1 []) P df db).isSome = true then 1 else 0)) ∧ sm g w.2.2 MA ∧ MP w.2.2 ((dfn onTop (f.2.1.getD 0 []) (f.2.1.getD 1 []) P df db).getD (P, df, db)).1 ((dfn onTop (f.2.1.getD 0 []) (f.2.1.getD 1 []) P df db).getD (P, df, db)).2.1 ((dfn onTop (f.2.1.getD 0 []) (f.2.1.getD 1 []) P df db).getD (P, df, db)).2.2)) aa ss 0 0 (fun a => q.1 ≤ a)) 37 [some (.ref 25), some (.ref 17), some (.int (if onTop = true then 1 else 0)), some (.int (nI (f.2.1.getD 0 []).length)), some (.int (nI (f.2.1.getD 1 []).length)), some .null, none, none, none] [] (0, 0, g) := by
    intro hnew
    refine v_aloadN X (dk D_Ms_define 21 rfl) rfl ?_
    refine v_ifnullN (tgt := 54) X (dk D_Ms_define 22 rfl) (by decide) ?_
    refine v_iconst (v := 0) X (dk D_Ms_define 28 rfl) (by decide) ?_
    refine v_istore (lb := [some (.ref 25), some (.ref 17), some (.int (if onTop = true then 1 else 0)), some (.int (nI (f.2.1.getD 0 []).length)), some (.int (nI (f.2.1.getD 1 []).length)), some .null, some (.int 0), none, none]) X (dk D_Ms_define 29 rfl) (by decide) rfl ?_
    refine v_iload X (dk D_Ms_define 30 rfl) rfl ?_
    refine v_if_eq (tgt := 76) X (dk D_Ms_define 31 rfl) (by decide) (fun _ => ?_) (fun c59 => absurd rfl c59)
    refine v_iload X (dk D_Ms_define 38 rfl) rfl ?_
    refine v_iload_n X (dk D_Ms_define 39 rfl) rfl ?_
    refine v_iadd X (dk D_Ms_define 40 rfl) ?_
    rw [nI_add]
    refine v_istore (lb := [some (.ref 25), some (.ref 17), some (.int (if onTop = true then 1 else 0)), some (.int (nI (f.2.1.getD 0 []).length)), some (.int (nI (f.2.1.getD 1 []).length)), some .null, some (.int 0), some (.int (nI ((f.2.1.getD 1 []).length + (f.2.1.getD 0 []).length))), none]) X (dk D_Ms_define 41 rfl) (by decide) rfl ?_
    refine v_iload X (dk D_Ms_define 42 rfl) rfl ?_
    refine v_if_eq (tgt := 91) X (dk D_Ms_define 43 rfl) (by decide) (fun _ => ?_) (fun c84 => absurd rfl c84)
    refine v_iconst (v := nI 1) X (dk D_Ms_define 46 rfl) (by decide) ?_
    refine v_istore (lb := [some (.ref 25), some (.ref 17), some (.int (if onTop = true then 1 else 0)), some (.int (nI (f.2.1.getD 0 []).length)), some (.int (nI (f.2.1.getD 1 []).length)), some .null, some (.int 0), some (.int (nI ((f.2.1.getD 1 []).length + (f.2.1.getD 0 []).length))), some (.int (nI 1))]) X (dk D_Ms_define 47 rfl) (by decide) rfl ?_
    refine v_iload X (dk D_Ms_define 48 rfl) rfl ?_
    refine v_sipush (v := nI 300) X (dk D_Ms_define 49 rfl) (by decide) ?_
    refine v_aload_n X (dk D_Ms_define 50 rfl) rfl ?_
    refine v_getI X (dk D_Ms_define 51 rfl) F_Ms_37 rfl rfl (hS.lt (by decide)) ?_
    rw [hM.1]
    refine v_isub X (dk D_Ms_define 52 rfl) ?_
    refine v_icmp_gt (tgt := 120) X (dk D_Ms_define 53 rfl) (by decide) (fun c104 => ?_) (fun c104 => ?_)
    · rw [lt_sub3 (by decide) (by decide) (by omega)] at c104
      refine v_iconst (v := 0) X (dk D_Ms_define 60 rfl) (by decide) ?_
      exact v_zret X hlk hrt rfl (dk D_Ms_define 61 rfl) ⟨by rw [hnew, if_neg (show ¬ (df < 300 ∧ db + (f.2.1.getD 0 []).length + (f.2.1.getD 1 []).length ≤ 16384) from fun x => by omega)]; rfl, sm.rf _ _, by rw [hnew, if_neg (show ¬ (df < 300 ∧ db + (f.2.1.getD 0 []).length + (f.2.1.getD 1 []).length ≤ 16384) from fun x => by omega)]; exact ⟨bk, sp, N, T, B, n9, b9, hM, hMC, hnb, hbb, hdf, hdb, hP⟩⟩
    · rw [lt_sub3 (by decide) (by decide) (by omega)] at c104
      refine v_iload X (dk D_Ms_define 54 rfl) rfl ?_
      refine v_sipush (v := nI 16384) X (dk D_Ms_define 55 rfl) (by decide) ?_
      refine v_aload_n X (dk D_Ms_define 56 rfl) rfl ?_
      refine v_getI X (dk D_Ms_define 57 rfl) F_Ms_41 rfl rfl (hS.lt (by decide)) ?_
      rw [hM.2.1]
      refine v_isub X (dk D_Ms_define 58 rfl) ?_
      refine v_icmp_le (tgt := 122) X (dk D_Ms_define 59 rfl) (by decide) (fun c117 => ?_) (fun c117 => ?_)
      · rw [le_sub3 (by omega) (by decide) (by omega)] at c117
        refine v_aloadN X (dk D_Ms_define 62 rfl) rfl ?_
        refine v_ifnonnullN X (dk D_Ms_define 63 rfl) ?_
        refine v_aload_n X (dk D_Ms_define 64 rfl) rfl ?_
        refine v_aload_n X (dk D_Ms_define 65 rfl) rfl ?_
        refine v_getF X (dk D_Ms_define 66 rfl) F_Ms_111 rfl rfl (hS.lt (by decide)) (hS.2 17 0) ?_
        refine v_aload_n X (dk D_Ms_define 67 rfl) rfl ?_
        refine v_iconst (v := nI 0) X (dk D_Ms_define 68 rfl) (by decide) ?_
        refine v_invV (As := [.int (nI 0)]) (st := [.ref 18, .ref 25]) X (k_start l q (i := 0) hS hC (by decide)) (dk D_Ms_define 69 rfl) G_Ms_115 K_Ca_start V_Ca_start rfl rfl (hS.lt (by decide)) rfl rfl (Nat.le_of_ble_eq_true rfl) (Nat.le_of_ble_eq_true rfl) (Nat.le_of_ble_eq_true rfl) (Nat.le_of_ble_eq_true rfl) (Nat.le_of_ble_eq_true rfl) ?_
        rintro v ws ⟨rfl, hws⟩
        rw [hws]
        show Vv _ _ _ _ _ _ _ _ _ _ _ _ _ _ _ [.int (nI (stA f r 0)), .ref 18, .ref 25] (0, 0, g)
        refine v_iload_n X (dk D_Ms_define 70 rfl) rfl ?_
        obtain ⟨i, sp, rfl⟩ : ∃ i s, sp = i :: s := by cases sp with | nil => exact absurd rfl (MC_spare hMC hnb (by omega)) | cons i s => exact ⟨i, s, rfl⟩
        have hi := (hM.2.2.2.2.2.2.2.1 i (List.mem_cons_self ..)).1
        have hs : i ∉ sp := (List.nodup_cons.mp hM.2.2.2.2.2.2.2.2.2.1).1
        have hT0 := (hM.2.2.2.2.2.2.2.1 i (List.mem_cons_self ..)).2.2
        have hN0 := (hM.2.2.2.2.2.2.2.1 i (List.mem_cons_self ..)).2.1
        have hby := MC_by hMC (fun j hj => (hM.2.2.2.2.2.2.2.1 j hj).2)
        refine v_invV (As := [.ref 18, .int (nI (stA f r 0)), .int (nI (f.2.1.getD 0 []).length)]) (st := []) X (k_addOnTop l q hS hM hC.1 (by decide) (by decide) (by decide) le0 hfb hk1 hk2s (by omega)) (dk D_Ms_define 71 rfl) G_Ms_98 K_Ms_addOnTop V_Ms_addOnTop rfl rfl (hS.lt (by decide)) rfl rfl (Nat.le_of_ble_eq_true rfl) (Nat.le_of_ble_eq_true rfl) (Nat.le_of_ble_eq_true rfl) (Nat.le_of_ble_eq_true rfl) (Nat.le_of_ble_eq_true rfl) ?_
        rintro v w ⟨rfl, y1, y2⟩
        rw [sl0] at y2
        show Vv _ _ _ _ _ _ _ _ _ _ _ _ _ _ _ [.ref (31 + 3 * i)] (0, 0, w.2.2)
        refine v_astore (lb := [some (.ref 25), some (.ref 17), some (.int (if onTop = true then 1 else 0)), some (.int (nI (f.2.1.getD 0 []).length)), some (.int (nI (f.2.1.getD 1 []).length)), some (.ref (31 + 3 * i)), some (.int 0), some (.int (nI ((f.2.1.getD 1 []).length + (f.2.1.getD 0 []).length))), some (.int (nI 1))]) X (dk D_Ms_define 72 rfl) (by decide) rfl ?_
        refine v_aload X (dk D_Ms_define 73 rfl) rfl ?_
        refine v_ifnonnull (tgt := 150) X (dk D_Ms_define 74 rfl) (by decide) ?_
        exact tail w.2.2 i _ _ _ _ _ _ (df + 1) (db + (f.2.1.getD 0 []).length + (f.2.1.getD 1 []).length) _ _ _ (hS.sm y1) (y1.mono (fun a ha => MA_mem.mpr (by simp [UU] at ha; omega))) y2 hi hs (by rw [hT0]; have := byM_N (N := N) (T := T) (M := va_up N i (f.2.1.getD 0 [])) hi (fun k hk => up_ne hk); rw [up_eq, hN0, List.length_nil] at this; simp only [List.length_nil]; omega) (nI_add _ _) (by rw [nI_add]; exact congrArg nI (by omega)) (by rw [hnew, if_pos ⟨by omega, by omega⟩]) (fun w hw => df_new hM hMC hnb hbb hP hk1 hk2 hw (by omega) (by omega))
      · rw [le_sub3 (by omega) (by decide) (by omega)] at c117
        refine v_iconst (v := 0) X (dk D_Ms_define 60 rfl) (by decide) ?_
        exact v_zret X hlk hrt rfl (dk D_Ms_define 61 rfl) ⟨by rw [hnew, if_neg (show ¬ (df < 300 ∧ db + (f.2.1.getD 0 []).length + (f.2.1.getD 1 []).length ≤ 16384) from fun x => by omega)]; rfl, sm.rf _ _, by rw [hnew, if_neg (show ¬ (df < 300 ∧ db + (f.2.1.getD 0 []).length + (f.2.1.getD 1 []).length ≤ 16384) from fun x => by omega)]; exact ⟨bk, sp, N, T, B, n9, b9, hM, hMC, hnb, hbb, hdf, hdb, hP⟩⟩
  have foundc : ∀ i, (bk k).find? (fun i => decide (N i = (f.2.1.getD 0 []))) = some i → onTop = false → Vv pp l ee (rmT 3 0 0) ss mm aa bb mt cd 9 q (MQ bb (Qw q (fun v w => v = some (.int (if (dfn onTop (f.2.1.getD 0 []) (f.2.1.getD 1 []) P df db).isSome = true then 1 else 0)) ∧ sm g w.2.2 MA ∧ MP w.2.2 ((dfn onTop (f.2.1.getD 0 []) (f.2.1.getD 1 []) P df db).getD (P, df, db)).1 ((dfn onTop (f.2.1.getD 0 []) (f.2.1.getD 1 []) P df db).getD (P, df, db)).2.1 ((dfn onTop (f.2.1.getD 0 []) (f.2.1.getD 1 []) P df db).getD (P, df, db)).2.2)) aa ss 0 0 (fun a => q.1 ≤ a)) 37 [some (.ref 25), some (.ref 17), some (.int (if onTop = true then 1 else 0)), some (.int (nI (f.2.1.getD 0 []).length)), some (.int (nI (f.2.1.getD 1 []).length)), some (.ref (31 + 3 * i)), none, none, none] [] (0, 0, g) := by
    intro i hF hoT
    obtain ⟨ks, is, hbk, hn, hks⟩ := fnd_split hF
    have hin : i ∈ bk k := by rw [hbk]; simp
    have hi := (hM.2.2.2.2.2.1 k hk1 i hin).1
    have hs := (hM.2.2.2.2.2.2.2.2.1 k hk1).2 i hin
    have hby := MC_by hMC (fun j hj => (hM.2.2.2.2.2.2.2.1 j hj).2)
    have hd0 := BF_fnd (B := B) (T := T) hbk hn hks
    rcases on_or (B i) with hBi | ⟨x, hBi⟩
    · have hge := MC_ge hMC hi hs hBi
      have e2 : gI g (33 + 3 * i) 2 = nI (T i).length := by obtain ⟨-, -, ⟨ch, fl, fr, hW, hN⟩, -⟩ := id hM; rw [(hW.2.2.2.1 _ (SM_2 hi)).2.1, ← (hN i hi).2, bys, List.length_map]
      have hd : (dfn onTop (f.2.1.getD 0 []) (f.2.1.getD 1 []) P df db) = if db + (f.2.1.getD 1 []).length ≤ 16384 + (T i).length then some (pu P (f.2.1.getD 0 []) ((none, (f.2.1.getD 1 [])) :: (P (f.2.1.getD 0 [])).tail), df, db + (f.2.1.getD 1 []).length - (T i).length) else none := by rw [dfn, if_neg (by rw [hoT]; decide), hP (f.2.1.getD 0 []) k hk1 hk2, hd0, hBi]; rfl
      refine v_aload X (dk D_Ms_define 21 rfl) rfl ?_
      refine v_ifnull X (dk D_Ms_define 22 rfl) ?_
      refine v_aload X (dk D_Ms_define 23 rfl) rfl ?_
      refine v_getR X (dk D_Ms_define 24 rfl) F_Ms_102 rfl (kdM i hi).1 (hS.lt (by omega)) ((hM.2.2.2.2.2.2.1 i hi).trans hBi) ?_
      refine v_ifnonnullN X (dk D_Ms_define 25 rfl) ?_
      refine v_iconst (v := 1) X (dk D_Ms_define 26 rfl) (by decide) ?_
      refine v_goto (tgt := 55) X (dk D_Ms_define 27 rfl) (by decide) ?_
      refine v_istore (lb := [some (.ref 25), some (.ref 17), some (.int (if onTop = true then 1 else 0)), some (.int (nI (f.2.1.getD 0 []).length)), some (.int (nI (f.2.1.getD 1 []).length)), some (.ref (31 + 3 * i)), some (.int 1), none, none]) X (dk D_Ms_define 29 rfl) (by decide) rfl ?_
      refine v_iload X (dk D_Ms_define 30 rfl) rfl ?_
      refine v_if_eq (tgt := 76) X (dk D_Ms_define 31 rfl) (by decide) (fun c59 => absurd c59 (by decide)) (fun _ => ?_)
      refine v_iload X (dk D_Ms_define 32 rfl) rfl ?_
      refine v_aload X (dk D_Ms_define 33 rfl) rfl ?_
      refine v_getF X (dk D_Ms_define 34 rfl) F_Ms_57 rfl (kdM i hi).1 (hS.lt (by omega)) ((hS.2 _ 1).trans (fRM hi).2) ?_
      refine v_getI X (dk D_Ms_define 35 rfl) F_Ms_83 rfl (kdM i hi).2.2 (hS.lt (by omega)) ?_
      rw [e2]
      refine v_isub X (dk D_Ms_define 36 rfl) ?_
      refine v_goto (tgt := 80) X (dk D_Ms_define 37 rfl) (by decide) ?_
      refine v_istore (lb := [some (.ref 25), some (.ref 17), some (.int (if onTop = true then 1 else 0)), some (.int (nI (f.2.1.getD 0 []).length)), some (.int (nI (f.2.1.getD 1 []).length)), some (.ref (31 + 3 * i)), some (.int 1), some (.int (nI (f.2.1.getD 1 []).length - nI (T i).length)), none]) X (dk D_Ms_define 41 rfl) (by decide) rfl ?_
      refine v_iload X (dk D_Ms_define 42 rfl) rfl ?_
      refine v_if_eq (tgt := 91) X (dk D_Ms_define 43 rfl) (by decide) (fun c84 => absurd c84 (by decide)) (fun _ => ?_)
      refine v_iconst (v := nI 0) X (dk D_Ms_define 44 rfl) (by decide) ?_
      refine v_goto (tgt := 92) X (dk D_Ms_define 45 rfl) (by decide) ?_
      refine v_istore (lb := [some (.ref 25), some (.ref 17), some (.int (if onTop = true then 1 else 0)), some (.int (nI (f.2.1.getD 0 []).length)), some (.int (nI (f.2.1.getD 1 []).length)), some (.ref (31 + 3 * i)), some (.int 1), some (.int (nI (f.2.1.getD 1 []).length - nI (T i).length)), some (.int (nI 0))]) X (dk D_Ms_define 47 rfl) (by decide) rfl ?_
      refine v_iload X (dk D_Ms_define 48 rfl) rfl ?_
      refine v_sipush (v := nI 300) X (dk D_Ms_define 49 rfl) (by decide) ?_
      refine v_aload_n X (dk D_Ms_define 50 rfl) rfl ?_
      refine v_getI X (dk D_Ms_define 51 rfl) F_Ms_37 rfl rfl (hS.lt (by decide)) ?_
      rw [hM.1]
      refine v_isub X (dk D_Ms_define 52 rfl) ?_
      refine v_icmp_gt (tgt := 120) X (dk D_Ms_define 53 rfl) (by decide) (fun c104 => absurd c104 (by rw [lt_sub3 (by decide) (by decide) (by omega)]; omega)) (fun _ => ?_)
      refine v_iload X (dk D_Ms_define 54 rfl) rfl ?_
      refine v_sipush (v := nI 16384) X (dk D_Ms_define 55 rfl) (by decide) ?_
      refine v_aload_n X (dk D_Ms_define 56 rfl) rfl ?_
      refine v_getI X (dk D_Ms_define 57 rfl) F_Ms_41 rfl rfl (hS.lt (by decide)) ?_
      rw [hM.2.1]
      refine v_isub X (dk D_Ms_define 58 rfl) ?_
      refine v_icmp_le (tgt := 122) X (dk D_Ms_define 59 rfl) (by decide) (fun c117 => ?_) (fun c117 => ?_)
      · rw [le_sub4 (by omega) (by omega) (by decide) (by omega)] at c117
        refine v_aload X (dk D_Ms_define 62 rfl) rfl ?_
        refine v_ifnonnull (tgt := 143) X (dk D_Ms_define 63 rfl) (by decide) ?_
        refine v_aload X (dk D_Ms_define 73 rfl) rfl ?_
        refine v_ifnonnull (tgt := 150) X (dk D_Ms_define 74 rfl) (by decide) ?_
        exact tail g i bk sp N T B _ df (db + (f.2.1.getD 1 []).length - (T i).length) _ _ _ hS (sm.rf _ _) hM hi hs (by omega) (by rw [nI_add]; rfl) (by rw [show nI db + (nI (f.2.1.getD 1 []).length - nI (T i).length) = nI (db + (f.2.1.getD 1 []).length) - nI (T i).length from by rw [← nI_add, Int32.sub_eq_add_neg, Int32.sub_eq_add_neg, Int32.add_assoc], pk_sub (by omega)]) (by rw [hd, if_pos (by omega)]) (fun w hw => df_set hM hMC hnb hbb hP hk1 hk2 hbk hn hks hw (by omega) (by omega) ⟨fun _ => ⟨rfl, rfl⟩, fun e => absurd hBi e⟩)
      · rw [le_sub4 (by omega) (by omega) (by decide) (by omega)] at c117
        refine v_iconst (v := 0) X (dk D_Ms_define 60 rfl) (by decide) ?_
        exact v_zret X hlk hrt rfl (dk D_Ms_define 61 rfl) ⟨by rw [hd, if_neg (show ¬ db + (f.2.1.getD 1 []).length ≤ 16384 + (T i).length from fun x => by omega)]; rfl, sm.rf _ _, by rw [hd, if_neg (show ¬ db + (f.2.1.getD 1 []).length ≤ 16384 + (T i).length from fun x => by omega)]; exact ⟨bk, sp, N, T, B, n9, b9, hM, hMC, hnb, hbb, hdf, hdb, hP⟩⟩
    · have hd : (dfn onTop (f.2.1.getD 0 []) (f.2.1.getD 1 []) P df db) = if df < 300 ∧ db + (f.2.1.getD 0 []).length + (f.2.1.getD 1 []).length ≤ 16384 then some (pu P (f.2.1.getD 0 []) ((none, (f.2.1.getD 1 [])) :: (P (f.2.1.getD 0 [])).tail), df + 1, db + (f.2.1.getD 0 []).length + (f.2.1.getD 1 []).length) else none := by rw [dfn, if_neg (by rw [hoT]; decide), hP (f.2.1.getD 0 []) k hk1 hk2, hd0, hBi]; rfl
      refine v_aload X (dk D_Ms_define 21 rfl) rfl ?_
      refine v_ifnull X (dk D_Ms_define 22 rfl) ?_
      refine v_aload X (dk D_Ms_define 23 rfl) rfl ?_
      refine v_getR X (dk D_Ms_define 24 rfl) F_Ms_102 rfl (kdM i hi).1 (hS.lt (by omega)) ((hM.2.2.2.2.2.2.1 i hi).trans hBi) ?_
      refine v_ifnonnull (tgt := 54) X (dk D_Ms_define 25 rfl) (by decide) ?_
      refine v_iconst (v := 0) X (dk D_Ms_define 28 rfl) (by decide) ?_
      refine v_istore (lb := [some (.ref 25), some (.ref 17), some (.int (if onTop = true then 1 else 0)), some (.int (nI (f.2.1.getD 0 []).length)), some (.int (nI (f.2.1.getD 1 []).length)), some (.ref (31 + 3 * i)), some (.int 0), none, none]) X (dk D_Ms_define 29 rfl) (by decide) rfl ?_
      refine v_iload X (dk D_Ms_define 30 rfl) rfl ?_
      refine v_if_eq (tgt := 76) X (dk D_Ms_define 31 rfl) (by decide) (fun _ => ?_) (fun c59 => absurd rfl c59)
      refine v_iload X (dk D_Ms_define 38 rfl) rfl ?_
      refine v_iload_n X (dk D_Ms_define 39 rfl) rfl ?_
      refine v_iadd X (dk D_Ms_define 40 rfl) ?_
      rw [nI_add]
      refine v_istore (lb := [some (.ref 25), some (.ref 17), some (.int (if onTop = true then 1 else 0)), some (.int (nI (f.2.1.getD 0 []).length)), some (.int (nI (f.2.1.getD 1 []).length)), some (.ref (31 + 3 * i)), some (.int 0), some (.int (nI ((f.2.1.getD 1 []).length + (f.2.1.getD 0 []).length))), none]) X (dk D_Ms_define 41 rfl) (by decide) rfl ?_
      refine v_iload X (dk D_Ms_define 42 rfl) rfl ?_
      refine v_if_eq (tgt := 91) X (dk D_Ms_define 43 rfl) (by decide) (fun _ => ?_) (fun c84 => absurd rfl c84)
      refine v_iconst (v := nI 1) X (dk D_Ms_define 46 rfl) (by decide) ?_
      refine v_istore (lb := [some (.ref 25), some (.ref 17), some (.int (if onTop = true then 1 else 0)), some (.int (nI (f.2.1.getD 0 []).length)), some (.int (nI (f.2.1.getD 1 []).length)), some (.ref (31 + 3 * i)), some (.int 0), some (.int (nI ((f.2.1.getD 1 []).length + (f.2.1.getD 0 []).length))), some (.int (nI 1))]) X (dk D_Ms_define 47 rfl) (by decide) rfl ?_
      refine v_iload X (dk D_Ms_define 48 rfl) rfl ?_
      refine v_sipush (v := nI 300) X (dk D_Ms_define 49 rfl) (by decide) ?_
      refine v_aload_n X (dk D_Ms_define 50 rfl) rfl ?_
      refine v_getI X (dk D_Ms_define 51 rfl) F_Ms_37 rfl rfl (hS.lt (by decide)) ?_
      rw [hM.1]
      refine v_isub X (dk D_Ms_define 52 rfl) ?_
      refine v_icmp_gt (tgt := 120) X (dk D_Ms_define 53 rfl) (by decide) (fun c104 => ?_) (fun c104 => ?_)
      · rw [lt_sub3 (by decide) (by decide) (by omega)] at c104
        refine v_iconst (v := 0) X (dk D_Ms_define 60 rfl) (by decide) ?_
        exact v_zret X hlk hrt rfl (dk D_Ms_define 61 rfl) ⟨by rw [hd, if_neg (show ¬ (df < 300 ∧ db + (f.2.1.getD 0 []).length + (f.2.1.getD 1 []).length ≤ 16384) from fun x => by omega)]; rfl, sm.rf _ _, by rw [hd, if_neg (show ¬ (df < 300 ∧ db + (f.2.1.getD 0 []).length + (f.2.1.getD 1 []).length ≤ 16384) from fun x => by omega)]; exact ⟨bk, sp, N, T, B, n9, b9, hM, hMC, hnb, hbb, hdf, hdb, hP⟩⟩
      · rw [lt_sub3 (by decide) (by decide) (by omega)] at c104
        refine v_iload X (dk D_Ms_define 54 rfl) rfl ?_
        refine v_sipush (v := nI 16384) X (dk D_Ms_define 55 rfl) (by decide) ?_
        refine v_aload_n X (dk D_Ms_define 56 rfl) rfl ?_
        refine v_getI X (dk D_Ms_define 57 rfl) F_Ms_41 rfl rfl (hS.lt (by decide)) ?_
        rw [hM.2.1]
        refine v_isub X (dk D_Ms_define 58 rfl) ?_
        refine v_icmp_le (tgt := 122) X (dk D_Ms_define 59 rfl) (by decide) (fun c117 => ?_) (fun c117 => ?_)
        · rw [le_sub3 (by omega) (by decide) (by omega)] at c117
          refine v_aload X (dk D_Ms_define 62 rfl) rfl ?_
          refine v_ifnonnull (tgt := 143) X (dk D_Ms_define 63 rfl) (by decide) ?_
          refine v_aload X (dk D_Ms_define 73 rfl) rfl ?_
          refine v_ifnonnull (tgt := 150) X (dk D_Ms_define 74 rfl) (by decide) ?_
          exact tail g i bk sp N T B _ (df + 1) (db + (f.2.1.getD 0 []).length + (f.2.1.getD 1 []).length) _ _ _ hS (sm.rf _ _) hM hi hs (by omega) (nI_add _ _) (by rw [nI_add]; exact congrArg nI (by omega)) (by rw [hd, if_pos ⟨by omega, by omega⟩]) (fun w hw => df_set hM hMC hnb hbb hP hk1 hk2 hbk hn hks hw (by omega) (by omega) ⟨fun e => absurd (hBi.symm.trans e) (fun e => by cases e), fun _ => ⟨rfl, rfl⟩⟩)
        · rw [le_sub3 (by omega) (by decide) (by omega)] at c117
          refine v_iconst (v := 0) X (dk D_Ms_define 60 rfl) (by decide) ?_
          exact v_zret X hlk hrt rfl (dk D_Ms_define 61 rfl) ⟨by rw [hd, if_neg (show ¬ (df < 300 ∧ db + (f.2.1.getD 0 []).length + (f.2.1.getD 1 []).length ≤ 16384) from fun x => by omega)]; rfl, sm.rf _ _, by rw [hd, if_neg (show ¬ (df < 300 ∧ db + (f.2.1.getD 0 []).length + (f.2.1.getD 1 []).length ≤ 16384) from fun x => by omega)]; exact ⟨bk, sp, N, T, B, n9, b9, hM, hMC, hnb, hbb, hdf, hdb, hP⟩⟩
  have hoT : onTop = true ∨ onTop = false := by cases onTop <;> simp
  rcases hoT with hoT | hoT
  · refine v_aload_n X (dk D_Ms_define 0 rfl) rfl ?_
    refine v_iconst (v := nI 0) X (dk D_Ms_define 1 rfl) (by decide) ?_
    refine v_invV (As := [.int (nI 0)]) (st := []) X (k_length l q (i := 0) hS hC (by decide)) (dk D_Ms_define 2 rfl) G_Ms_106 K_Ca_length V_Ca_length rfl rfl (hS.lt (by decide)) rfl rfl (Nat.le_of_ble_eq_true rfl) (Nat.le_of_ble_eq_true rfl) (Nat.le_of_ble_eq_true rfl) (Nat.le_of_ble_eq_true rfl) (Nat.le_of_ble_eq_true rfl) ?_
    rintro v ws ⟨rfl, hws⟩
    rw [hws]
    show Vv _ _ _ _ _ _ _ _ _ _ _ _ _ _ _ [.int (nI (f.2.1.getD 0 []).length)] (0, 0, g)
    refine v_istore_n (lb := [some (.ref 25), some (.ref 17), some (.int (if onTop = true then 1 else 0)), some (.int (nI (f.2.1.getD 0 []).length)), none, none, none, none, none]) X (dk D_Ms_define 3 rfl) (by decide) rfl ?_
    refine v_aload_n X (dk D_Ms_define 4 rfl) rfl ?_
    refine v_iconst (v := nI 1) X (dk D_Ms_define 5 rfl) (by decide) ?_
    refine v_invV (As := [.int (nI 1)]) (st := []) X (k_length l q (i := 1) hS hC (by decide)) (dk D_Ms_define 6 rfl) G_Ms_106 K_Ca_length V_Ca_length rfl rfl (hS.lt (by decide)) rfl rfl (Nat.le_of_ble_eq_true rfl) (Nat.le_of_ble_eq_true rfl) (Nat.le_of_ble_eq_true rfl) (Nat.le_of_ble_eq_true rfl) (Nat.le_of_ble_eq_true rfl) ?_
    rintro v ws ⟨rfl, hws⟩
    rw [hws]
    show Vv _ _ _ _ _ _ _ _ _ _ _ _ _ _ _ [.int (nI (f.2.1.getD 1 []).length)] (0, 0, g)
    refine v_istore (lb := [some (.ref 25), some (.ref 17), some (.int (if onTop = true then 1 else 0)), some (.int (nI (f.2.1.getD 0 []).length)), some (.int (nI (f.2.1.getD 1 []).length)), none, none, none, none]) X (dk D_Ms_define 7 rfl) (by decide) rfl ?_
    refine v_iload_n X (dk D_Ms_define 8 rfl) rfl ?_
    refine v_if_eq (tgt := 21) X (dk D_Ms_define 9 rfl) (by decide) (fun c14 => absurd c14 (by rw [hoT]; decide)) (fun _ => ?_)
    refine v_null X (dk D_Ms_define 10 rfl) ?_
    refine v_goto (tgt := 35) X (dk D_Ms_define 11 rfl) (by decide) ?_
    refine v_astoreN (lb := [some (.ref 25), some (.ref 17), some (.int (if onTop = true then 1 else 0)), some (.int (nI (f.2.1.getD 0 []).length)), some (.int (nI (f.2.1.getD 1 []).length)), some .null, none, none, none]) X (dk D_Ms_define 20 rfl) (by decide) rfl ?_
    exact newc (by rw [dfn, if_pos hoT])
  · rcases on_or ((bk k).find? (fun i => decide (N i = (f.2.1.getD 0 [])))) with hF | ⟨i, hF⟩
    · have hF2 : (bk k).find? (fun i => decide (N i = ((hl (f :: r)).drop (stA f r 0)).take (f.2.1.getD 0 []).length)) = none := by rw [sl0]; exact hF
      refine v_aload_n X (dk D_Ms_define 0 rfl) rfl ?_
      refine v_iconst (v := nI 0) X (dk D_Ms_define 1 rfl) (by decide) ?_
      refine v_invV (As := [.int (nI 0)]) (st := []) X (k_length l q (i := 0) hS hC (by decide)) (dk D_Ms_define 2 rfl) G_Ms_106 K_Ca_length V_Ca_length rfl rfl (hS.lt (by decide)) rfl rfl (Nat.le_of_ble_eq_true rfl) (Nat.le_of_ble_eq_true rfl) (Nat.le_of_ble_eq_true rfl) (Nat.le_of_ble_eq_true rfl) (Nat.le_of_ble_eq_true rfl) ?_
      rintro v ws ⟨rfl, hws⟩
      rw [hws]
      show Vv _ _ _ _ _ _ _ _ _ _ _ _ _ _ _ [.int (nI (f.2.1.getD 0 []).length)] (0, 0, g)
      refine v_istore_n (lb := [some (.ref 25), some (.ref 17), some (.int (if onTop = true then 1 else 0)), some (.int (nI (f.2.1.getD 0 []).length)), none, none, none, none, none]) X (dk D_Ms_define 3 rfl) (by decide) rfl ?_
      refine v_aload_n X (dk D_Ms_define 4 rfl) rfl ?_
      refine v_iconst (v := nI 1) X (dk D_Ms_define 5 rfl) (by decide) ?_
      refine v_invV (As := [.int (nI 1)]) (st := []) X (k_length l q (i := 1) hS hC (by decide)) (dk D_Ms_define 6 rfl) G_Ms_106 K_Ca_length V_Ca_length rfl rfl (hS.lt (by decide)) rfl rfl (Nat.le_of_ble_eq_true rfl) (Nat.le_of_ble_eq_true rfl) (Nat.le_of_ble_eq_true rfl) (Nat.le_of_ble_eq_true rfl) (Nat.le_of_ble_eq_true rfl) ?_
      rintro v ws ⟨rfl, hws⟩
      rw [hws]
      show Vv _ _ _ _ _ _ _ _ _ _ _ _ _ _ _ [.int (nI (f.2.1.getD 1 []).length)] (0, 0, g)
      refine v_istore (lb := [some (.ref 25), some (.ref 17), some (.int (if onTop = true then 1 else 0)), some (.int (nI (f.2.1.getD 0 []).length)), some (.int (nI (f.2.1.getD 1 []).length)), none, none, none, none]) X (dk D_Ms_define 7 rfl) (by decide) rfl ?_
      refine v_iload_n X (dk D_Ms_define 8 rfl) rfl ?_
      refine v_if_eq (tgt := 21) X (dk D_Ms_define 9 rfl) (by decide) (fun _ => ?_) (fun c14 => absurd (by rw [hoT]; decide) c14)
      refine v_aload_n X (dk D_Ms_define 12 rfl) rfl ?_
      refine v_aload_n X (dk D_Ms_define 13 rfl) rfl ?_
      refine v_getF X (dk D_Ms_define 14 rfl) F_Ms_111 rfl rfl (hS.lt (by decide)) (hS.2 17 0) ?_
      refine v_aload_n X (dk D_Ms_define 15 rfl) rfl ?_
      refine v_iconst (v := nI 0) X (dk D_Ms_define 16 rfl) (by decide) ?_
      refine v_invV (As := [.int (nI 0)]) (st := [.ref 18, .ref 25]) X (k_start l q (i := 0) hS hC (by decide)) (dk D_Ms_define 17 rfl) G_Ms_115 K_Ca_start V_Ca_start rfl rfl (hS.lt (by decide)) rfl rfl (Nat.le_of_ble_eq_true rfl) (Nat.le_of_ble_eq_true rfl) (Nat.le_of_ble_eq_true rfl) (Nat.le_of_ble_eq_true rfl) (Nat.le_of_ble_eq_true rfl) ?_
      rintro v ws ⟨rfl, hws⟩
      rw [hws]
      show Vv _ _ _ _ _ _ _ _ _ _ _ _ _ _ _ [.int (nI (stA f r 0)), .ref 18, .ref 25] (0, 0, g)
      refine v_iload_n X (dk D_Ms_define 18 rfl) rfl ?_
      refine v_invV (As := [.ref 18, .int (nI (stA f r 0)), .int (nI (f.2.1.getD 0 []).length)]) (st := []) X (k_findM l q hS hM hC.1 (by decide) le0 hfb hk1 hk2s) (dk D_Ms_define 19 rfl) G_Ms_118 K_Ms_find V_Ms_find rfl rfl (hS.lt (by decide)) rfl rfl (Nat.le_of_ble_eq_true rfl) (Nat.le_of_ble_eq_true rfl) (Nat.le_of_ble_eq_true rfl) (Nat.le_of_ble_eq_true rfl) (Nat.le_of_ble_eq_true rfl) ?_
      rintro v ws ⟨rfl, hws⟩
      rw [hws, hF2]
      show Vv _ _ _ _ _ _ _ _ _ _ _ _ _ _ _ [.null] (0, 0, g)
      refine v_astoreN (lb := [some (.ref 25), some (.ref 17), some (.int (if onTop = true then 1 else 0)), some (.int (nI (f.2.1.getD 0 []).length)), some (.int (nI (f.2.1.getD 1 []).length)), some .null, none, none, none]) X (dk D_Ms_define 20 rfl) (by decide) rfl ?_
      exact newc (by rw [dfn, if_neg (by rw [hoT]; decide), hP (f.2.1.getD 0 []) k hk1 hk2, BF_none (fnd_none hF)]; rfl)
    · have hF2 : (bk k).find? (fun i => decide (N i = ((hl (f :: r)).drop (stA f r 0)).take (f.2.1.getD 0 []).length)) = some i := by rw [sl0]; exact hF
      refine v_aload_n X (dk D_Ms_define 0 rfl) rfl ?_
      refine v_iconst (v := nI 0) X (dk D_Ms_define 1 rfl) (by decide) ?_
      refine v_invV (As := [.int (nI 0)]) (st := []) X (k_length l q (i := 0) hS hC (by decide)) (dk D_Ms_define 2 rfl) G_Ms_106 K_Ca_length V_Ca_length rfl rfl (hS.lt (by decide)) rfl rfl (Nat.le_of_ble_eq_true rfl) (Nat.le_of_ble_eq_true rfl) (Nat.le_of_ble_eq_true rfl) (Nat.le_of_ble_eq_true rfl) (Nat.le_of_ble_eq_true rfl) ?_
      rintro v ws ⟨rfl, hws⟩
      rw [hws]
      show Vv _ _ _ _ _ _ _ _ _ _ _ _ _ _ _ [.int (nI (f.2.1.getD 0 []).length)] (0, 0, g)
      refine v_istore_n (lb := [some (.ref 25), some (.ref 17), some (.int (if onTop = true then 1 else 0)), some (.int (nI (f.2.1.getD 0 []).length)), none, none, none, none, none]) X (dk D_Ms_define 3 rfl) (by decide) rfl ?_
      refine v_aload_n X (dk D_Ms_define 4 rfl) rfl ?_
      refine v_iconst (v := nI 1) X (dk D_Ms_define 5 rfl) (by decide) ?_
      refine v_invV (As := [.int (nI 1)]) (st := []) X (k_length l q (i := 1) hS hC (by decide)) (dk D_Ms_define 6 rfl) G_Ms_106 K_Ca_length V_Ca_length rfl rfl (hS.lt (by decide)) rfl rfl (Nat.le_of_ble_eq_true rfl) (Nat.le_of_ble_eq_true rfl) (Nat.le_of_ble_eq_true rfl) (Nat.le_of_ble_eq_true rfl) (Nat.le_of_ble_eq_true rfl) ?_
      rintro v ws ⟨rfl, hws⟩
      rw [hws]
      show Vv _ _ _ _ _ _ _ _ _ _ _ _ _ _ _ [.int (nI (f.2.1.getD 1 []).length)] (0, 0, g)
      refine v_istore (lb := [some (.ref 25), some (.ref 17), some (.int (if onTop = true then 1 else 0)), some (.int (nI (f.2.1.getD 0 []).length)), some (.int (nI (f.2.1.getD 1 []).length)), none, none, none, none]) X (dk D_Ms_define 7 rfl) (by decide) rfl ?_
      refine v_iload_n X (dk D_Ms_define 8 rfl) rfl ?_
      refine v_if_eq (tgt := 21) X (dk D_Ms_define 9 rfl) (by decide) (fun _ => ?_) (fun c14 => absurd (by rw [hoT]; decide) c14)
      refine v_aload_n X (dk D_Ms_define 12 rfl) rfl ?_
      refine v_aload_n X (dk D_Ms_define 13 rfl) rfl ?_
      refine v_getF X (dk D_Ms_define 14 rfl) F_Ms_111 rfl rfl (hS.lt (by decide)) (hS.2 17 0) ?_
      refine v_aload_n X (dk D_Ms_define 15 rfl) rfl ?_
      refine v_iconst (v := nI 0) X (dk D_Ms_define 16 rfl) (by decide) ?_
      refine v_invV (As := [.int (nI 0)]) (st := [.ref 18, .ref 25]) X (k_start l q (i := 0) hS hC (by decide)) (dk D_Ms_define 17 rfl) G_Ms_115 K_Ca_start V_Ca_start rfl rfl (hS.lt (by decide)) rfl rfl (Nat.le_of_ble_eq_true rfl) (Nat.le_of_ble_eq_true rfl) (Nat.le_of_ble_eq_true rfl) (Nat.le_of_ble_eq_true rfl) (Nat.le_of_ble_eq_true rfl) ?_
      rintro v ws ⟨rfl, hws⟩
      rw [hws]
      show Vv _ _ _ _ _ _ _ _ _ _ _ _ _ _ _ [.int (nI (stA f r 0)), .ref 18, .ref 25] (0, 0, g)
      refine v_iload_n X (dk D_Ms_define 18 rfl) rfl ?_
      refine v_invV (As := [.ref 18, .int (nI (stA f r 0)), .int (nI (f.2.1.getD 0 []).length)]) (st := []) X (k_findM l q hS hM hC.1 (by decide) le0 hfb hk1 hk2s) (dk D_Ms_define 19 rfl) G_Ms_118 K_Ms_find V_Ms_find rfl rfl (hS.lt (by decide)) rfl rfl (Nat.le_of_ble_eq_true rfl) (Nat.le_of_ble_eq_true rfl) (Nat.le_of_ble_eq_true rfl) (Nat.le_of_ble_eq_true rfl) (Nat.le_of_ble_eq_true rfl) ?_
      rintro v ws ⟨rfl, hws⟩
      rw [hws, hF2]
      show Vv _ _ _ _ _ _ _ _ _ _ _ _ _ _ _ [.ref (31 + 3 * i)] (0, 0, g)
      refine v_astore (lb := [some (.ref 25), some (.ref 17), some (.int (if onTop = true then 1 else 0)), some (.int (nI (f.2.1.getD 0 []).length)), some (.int (nI (f.2.1.getD 1 []).length)), some (.ref (31 + 3 * i)), none, none, none]) X (dk D_Ms_define 20 rfl) (by decide) rfl ?_
      exact foundc i hF hoT
