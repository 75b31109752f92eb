/-! making: the constructors, those with loops -/
theorem CT.rowR {g h : mu_T} {a i : Nat} {L : List Nat} {r k : Nat} {x : Option Nat} (T : CT g h a i L) (hr : r ∈ L) (h1 : a < r) (h2 : r < i) : CT g (xR h r k x) a i L := ⟨T.1, T.2.1, fun j hj k2 => ⟨(T.2.2.1 j hj k2).1, (show gR (xR h r k x) j k2 = gR h j k2 from up2_na (by omega)).trans (T.2.2.1 j hj k2).2.1, (T.2.2.1 j hj k2).2.2⟩, fun j h3 h4 h5 k2 => ⟨(T.2.2.2 j h3 h4 h5 k2).1, (show gR (xR h r k x) j k2 = gR h j k2 from up2_na (fun e => h5 (by rw [e]; exact hr))).trans (T.2.2.2 j h3 h4 h5 k2).2.1, (T.2.2.2 j h3 h4 h5 k2).2.2⟩⟩
theorem OB.rowR {h : mu_T} {a r k : Nat} {x : Option Nat} {fi : Nat → Int32} {fr ff : Nat → Option Nat} (O : OB h a fi fr ff) (hr : a ≠ r) : OB (xR h r k x) a fi fr ff := fun j => ⟨(O j).1, (show gR (xR h r k x) a j = gR h a j from up2_na hr).trans (O j).2.1, (O j).2.2⟩
theorem CT.done {g h : mu_T} {a i r : Nat} (T : CT g h a i [r]) (hf : fz h r) : CT g h a i [] := ⟨T.1, T.2.1, T.2.2.1, fun j h1 h2 _ => by
  by_cases e : j = r
  · rw [e]; exact hf
  · exact T.2.2.2 j h1 h2 (fun z => e (List.mem_singleton.mp z))⟩
/-- a meaning and its chains -/
def ME (a : Nat) : Prop := kdT a = .inl 8 ∧ (kdT (a + 1) = .inl 4 ∧ kdT (a + 1 + 1) = .inl 4) ∧ a < 2000 ∧ (isCh (a + 1) = true ∧ isCh (a + 1 + 1) = true) ∧ (∀ k, iI0 a k = 0 ∧ iR0 a k = none) ∧ (∀ k, va_up (va_up (fun _ => none) 0 (some (a + 1))) 1 (some (a + 1 + 1)) k = fR0 a k) ∧ (∀ k, iR0 (a + 1) k = none ∧ fR0 (a + 1) k = none) ∧ ∀ k, iR0 (a + 1 + 1) k = none ∧ fR0 (a + 1 + 1) k = none
theorem fR0_ch {a k : Nat} (h1 : 31 ≤ a) (h2 : a < 982) (h3 : ¬ (a - 31) % 3 = 0) : fR0 a k = none := by
  rw [fR0]
  · rw [if_neg (fun z => h3 z.2.2)]
  all_goals (intros; omega)
theorem fR0_dv {a k : Nat} (h1 : 987 ≤ a) (h2 : a < 997) : fR0 a k = none := by
  rw [fR0]
  · rw [if_neg (by omega)]
  all_goals (intros; omega)
theorem ME_of {i : Nat} (h : i < 317) : ME (31 + 3 * i) := by
  refine ⟨?_, ⟨?_, ?_⟩, by omega, ⟨?_, ?_⟩, fun k => ⟨?_, ?_⟩, fun k => ?_, fun k => ⟨?_, fR0_ch (by omega) (by omega) (by omega)⟩, fun k => ⟨?_, fR0_ch (by omega) (by omega) (by omega)⟩⟩
  · exact (kdM i h).1
  · rw [show 31 + 3 * i + 1 = 32 + 3 * i by omega]; exact (kdM i h).2.1
  · rw [show 31 + 3 * i + 1 + 1 = 33 + 3 * i by omega]; exact (kdM i h).2.2
  · exact decide_eq_true (Or.inl (by omega))
  · exact decide_eq_true (Or.inl (by omega))
  · rw [iI0, if_neg (fun z => by have := of_decide_eq_true z; omega), if_neg (by omega), if_neg (by omega)]
  · exact (zR_ok (by omega) k).symm
  · rw [fR0]
    · rw [if_pos (by omega)]
      by_cases e1 : k = 1
      · rw [e1, va_up_eq]; rfl
      · rw [va_up_ne' e1]
        by_cases e0 : k = 0
        · rw [e0, va_up_eq]; rfl
        · rw [va_up_ne' e0, if_neg e0, if_neg e1]
    all_goals (intros; omega)
  · exact (zR_ok (by omega) k).symm
  · exact (zR_ok (by omega) k).symm
theorem WB_Me : Cond.methodLink "RescanMill$Meaning" 1 Lib.objectInit ∈ tbG := tb_in (i := 189) (by decide +kernel) (by decide +kernel)
theorem WL_Me_7 : Cond.classLink "RescanMill$Meaning" 7 "RescanMill$Chain" ∈ tbG := tb_in (i := 190) (by decide +kernel) (by decide +kernel)
theorem WI_Ch : Cond.instantiable "RescanMill$Chain" 3 ∈ tbG := tb_in (i := 191) (by decide +kernel) (by decide +kernel)
theorem WN_Ch : Cond.initialized "RescanMill$Chain" ∈ tbG := tb_in (i := 9) (by decide +kernel) (by decide +kernel)
set_option maxHeartbeats 4000000 in
set_option maxRecDepth 100000 in
theorem k_Me_init (l : Launch) (q : ev_T) {a : Nat} {g : mu_T} (hg : gN g = a + 1) (hz0 : ∀ j, a ≤ j → zr g j) (hM : ME a) : Ctr l q M_Me_init 2 [.ref a] (2, 6, g) (fun v w => v = none ∧ mkM g w.2.2 a (a + 1 + 1 + 1)) := by
  refine Ctr.mk (lb := [some (.ref a)]) (by decide +kernel) (Nat.le_of_ble_eq_true rfl) rfl rfl ?_
  intro pp ee ss mm aa bb mt cd X hrt hlk hnm
  obtain ⟨hka, hkc, hab, hch, ha0, hf0, hz1, hz2⟩ := hM
  have hz : ∀ j, a < j → zr g j := fun j hj => hz0 j (by omega)
  obtain ⟨T0, O0⟩ := CT.start hg (hz0 a (Nat.le_refl _))
  refine v_aload_n X (dk D_Me_init 0 rfl) rfl ?_
  refine v_objInit X (dk D_Me_init 1 rfl) WB_Me W_obI W_obC (Nat.le_of_ble_eq_true rfl) (Nat.le_of_ble_eq_true rfl) (Nat.le_of_ble_eq_true rfl) ?_
  refine v_aload_n X (dk D_Me_init 2 rfl) rfl ?_
  refine v_nwC (bc := 1) (bs := 3) (i := (a + 1)) (ci := 4) X (dk D_Me_init 3 rfl) rfl WL_Me_7 WI_Ch WN_Ch in_Ch CK_Ch (by decide) hkc.1 (by omega) hz T0 O0 (fun h1 T1 O1 N1 Z1 _ => ?_)
  refine v_dup X (dk D_Me_init 4 rfl) rfl ?_
  refine v_icC (bc := 1) (bs := 3) (i := (a + 1)) (i2 := (a + 1 + 1)) (d := 1) (As := []) (st := [.ref (a + 1), .ref a]) X (k_Ch_init l q (a := (a + 1)) N1 Z1 hkc.1 hch.1 (fun k => (hz1 k).1) (fun k => (hz1 k).2)) (dk D_Me_init 5 rfl) G_Me_9 K_Ch_init rfl rfl I_Ch_init rfl rfl (Nat.le_of_ble_eq_true rfl) (Nat.le_of_ble_eq_true rfl) (Nat.le_of_ble_eq_true rfl) (by omega) (by intro j hj; cases hj) (by omega) T1 O1 (fun h2 T2 O2 _ => ?_)
  refine v_pFC (b := (a + 1)) X (dk D_Me_init 6 rfl) F_Me_10 CK_Me rfl hka (Or.inl ⟨_, rfl⟩) hnm rfl T2 O2 (fun h3 T3 O3 E3 => ?_)
  refine v_aload_n X (dk D_Me_init 7 rfl) rfl ?_
  refine v_nwC (bc := 0) (bs := 0) (i := (a + 1 + 1)) (ci := 4) X (dk D_Me_init 8 rfl) rfl WL_Me_7 WI_Ch WN_Ch in_Ch CK_Ch (by decide) hkc.2 (by omega) hz T3 O3 (fun h4 T4 O4 N4 Z4 _ => ?_)
  refine v_dup X (dk D_Me_init 9 rfl) rfl ?_
  refine v_icC (bc := 0) (bs := 0) (i := (a + 1 + 1)) (i2 := (a + 1 + 1 + 1)) (d := 1) (As := []) (st := [.ref (a + 1 + 1), .ref a]) X (k_Ch_init l q (a := (a + 1 + 1)) N4 Z4 hkc.2 hch.2 (fun k => (hz2 k).1) (fun k => (hz2 k).2)) (dk D_Me_init 10 rfl) G_Me_9 K_Ch_init rfl rfl I_Ch_init rfl rfl (Nat.le_of_ble_eq_true rfl) (Nat.le_of_ble_eq_true rfl) (Nat.le_of_ble_eq_true rfl) (by omega) (by intro j hj; cases hj) (by omega) T4 O4 (fun h5 T5 O5 _ => ?_)
  refine v_pFC (b := (a + 1 + 1)) X (dk D_Me_init 11 rfl) F_Me_16 CK_Me rfl hka (Or.inl ⟨_, rfl⟩) hnm rfl T5 O5 (fun h6 T6 O6 E6 => ?_)
  exact v_vret X hlk hrt (dk D_Me_init 12 rfl) ⟨rfl, T6.fin O6 (fun k => (ha0 k).1.symm) (fun k => (ha0 k).2.symm) hf0⟩
theorem rM_ok (k : Nat) : (if k < 317 then some (31 + 3 * k) else none) = iR0 30 k := by
  by_cases e : k < 317
  · rw [if_pos e, iR0, if_neg (fun z => absurd z.1 (by decide)), if_pos ⟨rfl, e⟩]
  · rw [if_neg e, iR0, if_neg (fun z => absurd z.1 (by decide)), if_neg (fun z => e z.2), if_neg (fun z => absurd z.1 (by decide)), if_neg (fun z => absurd z.1 (by decide))]
theorem rD_ok (k : Nat) : (if k < 10 then some (987 + 1 * k) else none) = iR0 986 k := by
  by_cases e : k < 10
  · rw [if_pos e, iR0, if_neg (fun z => absurd z.1 (by decide)), if_neg (fun z => absurd z.1 (by decide)), if_pos ⟨rfl, e⟩, Nat.one_mul]
  · rw [if_neg e, iR0, if_neg (fun z => absurd z.1 (by decide)), if_neg (fun z => absurd z.1 (by decide)), if_neg (fun z => e z.2), if_neg (fun z => absurd z.1 (by decide))]
theorem zf_ok {i : Nat} (h : ∀ k, k < 64 → fR0 i k = none) : ∀ k, none = fR0 i k := fun k => by
  by_cases e : k < 64
  · exact (h k e).symm
  · exact (fR0_64 i k (by omega)).symm
theorem Z_Ms_26 : Cond.fieldLinkNest "RescanMill$Meanings" (26 : Nat) "RescanMill" "BUILT_INS" "[LRescanMill$BuiltIn;" "RescanMill" ∈ nstT := by simp [nstT]
theorem WB_Ms : Cond.methodLink "RescanMill$Meanings" 3 Lib.objectInit ∈ tbG := tb_in (i := 157) (by decide +kernel) (by decide +kernel)
theorem WL_Ms_9 : Cond.classLink "RescanMill$Meanings" 9 "RescanMill$Cells" ∈ tbG := tb_in (i := 158) (by decide +kernel) (by decide +kernel)
theorem WI_Ce : Cond.instantiable "RescanMill$Cells" 5 ∈ tbG := tb_in (i := 159) (by decide +kernel) (by decide +kernel)
theorem WN_Ce : Cond.initialized "RescanMill$Cells" ∈ tbG := tb_in (i := 7) (by decide +kernel) (by decide +kernel)
theorem WL_Ms_20 : Cond.classLink "RescanMill$Meanings" 20 "RescanMill$Meaning" ∈ tbG := tb_in (i := 181) (by decide +kernel) (by decide +kernel)
theorem WO_Me : Cond.arrayOver (.object "RescanMill$Meaning") ∈ nstT := by simp [nstT]
theorem WI_Me : Cond.instantiable "RescanMill$Meaning" 5 ∈ tbG := tb_in (i := 185) (by decide +kernel) (by decide +kernel)
theorem WN_Me : Cond.initialized "RescanMill$Meaning" ∈ tbG := tb_in (i := 8) (by decide +kernel) (by decide +kernel)
set_option maxHeartbeats 4000000 in
set_option maxRecDepth 100000 in
theorem k_Ms_init (l : Launch) (q : ev_T)  {g : mu_T} (hg : gN g = 25 + 1) (hz0 : ∀ j, 25 ≤ j → zr g j) : Ctr l q M_Ms_init 3 [.ref 25] (956, 36961, g) (fun v w => v = none ∧ mkM g w.2.2 25 982) := by
  refine Ctr.mk (lb := [some (.ref 25), none]) (by decide +kernel) (Nat.le_of_ble_eq_true rfl) rfl rfl ?_
  intro pp ee ss mm aa bb mt cd X hrt hlk hnm
  have hz : ∀ j, 25 < j → zr g j := fun j hj => hz0 j (by omega)
  obtain ⟨T0, O0⟩ := CT.start hg (hz0 25 (Nat.le_refl _))
  have loop : ∀ (d i : Nat) (h : mu_T), i + d = 317 → CT g h 25 (31 + 3 * i) [30] → OB h 25 (fun _ => 0) (fun _ => none) (va_up (va_up (va_up (fun _ => none) 0 (some 26)) 3 (some 29)) 4 (some 30)) → (∀ k, gI h 30 k = 0 ∧ gR h 30 k = (if k < i then some (31 + 3 * k) else none) ∧ gF h 30 k = none) → Vv pp l ee (rmT 3 956 36961) ss mm aa bb mt cd 2 q (MQ bb (Qw q (fun v w => v = none ∧ mkM g w.2.2 25 982)) aa ss 956 36961 (fun a => q.1 ≤ a)) 45 [some (.ref 25), some (.int (nI i))] [] (3 * d, 11 * d, h) := by
    intro d
    induction d with
    | zero =>
      intro i h hid T O hrow
      have hi : i = 317 := by omega
      subst hi
      refine v_iload_n X (dk D_Ms_init 21 rfl) rfl ?_
      refine v_aload_n X (dk D_Ms_init 22 rfl) rfl ?_
      refine v_getF X (dk D_Ms_init 23 rfl) F_Ms_30 rfl rfl (by show 25 < gN h; rw [T.1]; omega) ((O 4).2.2.trans rfl) ?_
      refine v_alen (v := nI 317) X (dk D_Ms_init 24 rfl) rfl rfl (by show 30 < gN h; rw [T.1]; omega) rfl ?_
      refine v_icmp_ge (tgt := 73) X (dk D_Ms_init 25 rfl) (by decide) (fun _ => ?_) (fun c9 => absurd (nI_le (Nat.le_refl _) (by decide)) c9)
      exact v_vret X hlk hrt (dk D_Ms_init 35 rfl) ⟨rfl, (T.done (fun k => ⟨(hrow k).1.trans (by rw [iI0, if_neg (by decide), if_neg (by rintro ⟨z, _⟩; revert z; decide), if_neg (by rintro ⟨z, _⟩; revert z; decide)]), (hrow k).2.1.trans (rM_ok k), (hrow k).2.2.trans (zf_ok (by decide +kernel) k)⟩)).fin O (zi_ok (by decide) (by decide)) (zR_ok (by decide)) (f64 (by decide +kernel) (u64 (u64 (u64 (fun _ _ => rfl) (by decide)) (by decide)) (by decide)) (fR0_64 25))⟩
    | succ d ih =>
      intro i h hid T O hrow
      refine v_iload_n X (dk D_Ms_init 21 rfl) rfl ?_
      refine v_aload_n X (dk D_Ms_init 22 rfl) rfl ?_
      refine v_getF X (dk D_Ms_init 23 rfl) F_Ms_30 rfl rfl (by show 25 < gN h; rw [T.1]; omega) ((O 4).2.2.trans rfl) ?_
      refine v_alen (v := nI 317) X (dk D_Ms_init 24 rfl) rfl rfl (by show 30 < gN h; rw [T.1]; omega) rfl ?_
      refine v_icmp_ge (tgt := 73) X (dk D_Ms_init 25 rfl) (by decide) (fun c9 => absurd c9 (nI_ge (by omega) (by omega))) (fun _ => ?_)
      refine v_aload_n X (dk D_Ms_init 26 rfl) rfl ?_
      refine v_getF X (dk D_Ms_init 27 rfl) F_Ms_30 rfl rfl (by show 25 < gN h; rw [T.1]; omega) ((O 4).2.2.trans rfl) ?_
      refine v_iload_n X (dk D_Ms_init 28 rfl) rfl ?_
      show Vv _ _ _ _ _ _ _ _ _ _ _ _ _ _ _ _ (3 * d + 2 + 1, 11 * d + 6 + nfT 8, h)
      refine v_nwC (bc := 3 * d + 2) (bs := 11 * d + 6) (i := (31 + 3 * i)) (ci := 8) X (dk D_Ms_init 29 rfl) rfl WL_Ms_20 WI_Me WN_Me in_Me CK_Me (by decide) (ME_of (show i < 317 by omega)).1 (by omega) hz T O (fun h1 T1 O1 N1 Z1 E1 => ?_)
      refine v_dup X (dk D_Ms_init 30 rfl) rfl ?_
      refine v_icC (bc := 3 * d) (bs := 11 * d) (i := (31 + 3 * i)) (i2 := 31 + 3 * (i + 1)) (d := 2) (As := []) (st := [.ref (31 + 3 * i), .int (nI i), .ref 30]) X (k_Me_init l q (a := 31 + 3 * i) N1 Z1 (ME_of (by omega))) (dk D_Ms_init 31 rfl) G_Ms_33 K_Me_init rfl rfl I_Me_init rfl rfl (Nat.le_of_ble_eq_true rfl) (Nat.le_of_ble_eq_true rfl) (Nat.le_of_ble_eq_true rfl) (by omega) (by intro j hj; rw [List.mem_singleton.mp hj]; omega) (by omega) T1 O1 (fun h2 T2 O2 m2 => ?_)
      refine v_aast X (dk D_Ms_init 32 rfl) rfl rfl (by decide) (by show 30 < gN h2; rw [T2.1]; omega) (vp_in_nI (show i < 317 by omega) (by decide)) (ME_of (show i < 317 by omega)).1 rfl (by show (31 + 3 * i) < gN h2; rw [T2.1]; omega) ?_
      rw [nI_clamp (by omega)]
      refine v_iinc (v := nI (i + 1)) (lb := [some (.ref 25), some (.int (nI (i + 1)))]) X (dk D_Ms_init 33 rfl) rfl (nI_1 _) (by decide) rfl ?_
      refine v_goto (tgt := 45) X (dk D_Ms_init 34 rfl) (by decide) ?_
      have hrow2 : ∀ k, gI h2 30 k = 0 ∧ gR h2 30 k = (if k < i then some (31 + 3 * k) else none) ∧ gF h2 30 k = none := fun k => by
        obtain ⟨p1, p2, p3⟩ := m2.2.1 30 (Or.inl (by omega)) k
        have e1 : gI h1 30 k = gI h 30 k ∧ gR h1 30 k = gR h 30 k ∧ gF h1 30 k = gF h 30 k := by
          obtain ⟨n1, r1⟩ := h1; obtain ⟨n0, r0⟩ := h; have E : r1 = r0 := E1; subst E; exact ⟨rfl, rfl, rfl⟩
        exact ⟨p1.trans (e1.1.trans (hrow k).1), p2.trans (e1.2.1.trans (hrow k).2.1), p3.trans (e1.2.2.trans (hrow k).2.2)⟩
      exact ih (i + 1) _ (by omega) (T2.rowR (List.mem_singleton.mpr rfl) (by decide) (by omega)) (O2.rowR (by decide)) (fun k => ⟨(hrow2 k).1, by
        by_cases e : k = i
        · rw [e, if_pos (by omega)]; exact up2_eq _ _ _ _
        · refine (show gR (xR h2 30 i _) 30 k = gR h2 30 k from up2_nk e).trans ((hrow2 k).2.1.trans ?_)
          by_cases e2 : k < i
          · rw [if_pos e2, if_pos (by omega)]
          · rw [if_neg e2, if_neg (by omega)], (hrow2 k).2.2⟩)
  refine v_aload_n X (dk D_Ms_init 0 rfl) rfl ?_
  refine v_objInit X (dk D_Ms_init 1 rfl) WB_Ms W_obI W_obC (Nat.le_of_ble_eq_true rfl) (Nat.le_of_ble_eq_true rfl) (Nat.le_of_ble_eq_true rfl) ?_
  refine v_aload_n X (dk D_Ms_init 2 rfl) rfl ?_
  refine v_nwC (bc := 955) (bs := 36956) (i := 26) (ci := 3) X (dk D_Ms_init 3 rfl) rfl WL_Ms_9 WI_Ce WN_Ce in_Ce CK_Ce (by decide) rfl (by decide) hz T0 O0 (fun h1 T1 O1 N1 Z1 _ => ?_)
  refine v_dup X (dk D_Ms_init 4 rfl) rfl ?_
  refine v_sipush (v := 16512) X (dk D_Ms_init 5 rfl) (by decide) ?_
  refine v_icC (bc := 953) (bs := 3932) (i := 26) (i2 := 29) (d := 1) (As := [.int (nI 16512)]) (st := [.ref 26, .ref 25]) X (k_Ce_init26 l q N1 Z1) (dk D_Ms_init 6 rfl) G_Ms_13 K_Ce_init rfl rfl I_Ce_init rfl rfl (Nat.le_of_ble_eq_true rfl) (Nat.le_of_ble_eq_true rfl) (Nat.le_of_ble_eq_true rfl) (by decide) (by decide) (by decide) T1 O1 (fun h2 T2 O2 _ => ?_)
  refine v_pFC (b := 26) X (dk D_Ms_init 7 rfl) F_Ms_16 CK_Ms rfl rfl (Or.inl ⟨_, rfl⟩) hnm rfl T2 O2 (fun h3 T3 O3 E3 => ?_)
  refine v_aload_n X (dk D_Ms_init 8 rfl) rfl ?_
  refine v_sipush (v := 128) X (dk D_Ms_init 9 rfl) (by decide) ?_
  refine v_anC (bc := 952) (bs := 3804) (i := 29) (N := 128) (t := 4) X (dk D_Ms_init 10 rfl) rfl (by decide) WL_Ms_20 WO_Me (by decide) (by decide +kernel) (by decide) rfl (by decide) hz T3 O3 (fun h4 T4 O4 Z4 => ?_)
  replace T4 := T4.row Z4 (zz_ok (by decide) (by decide) (by decide +kernel))
  refine v_pFC (b := 29) X (dk D_Ms_init 11 rfl) F_Ms_22 CK_Ms rfl rfl (Or.inr ⟨_, rfl⟩) hnm rfl T4 O4 (fun h5 T5 O5 E5 => ?_)
  refine v_aload_n X (dk D_Ms_init 12 rfl) rfl ?_
  refine v_sipush (v := 300) X (dk D_Ms_init 13 rfl) (by decide) ?_
  refine v_gets (v := .ref 1048750) X (dk D_Ms_init 14 rfl) (Or.inr ⟨_, Z_Ms_26⟩) X.sf.2.2.2.1.1 ?_
  refine v_salen (v := 17) X (dk D_Ms_init 15 rfl) X.sf.2.2.2.1.2 rfl ?_
  refine v_iadd X (dk D_Ms_init 16 rfl) ?_
  refine v_anC (bc := 951) (bs := 3487) (i := 30) (N := 317) (t := 4) X (dk D_Ms_init 17 rfl) rfl (by decide) WL_Ms_20 WO_Me (by decide) (by decide +kernel) (by decide) rfl (by decide) hz T5 O5 (fun h6 T6 O6 Z6 => ?_)
  refine v_pFC (b := 30) X (dk D_Ms_init 18 rfl) F_Ms_30 CK_Ms rfl rfl (Or.inr ⟨_, rfl⟩) hnm rfl T6 O6 (fun h7 T7 O7 E7 => ?_)
  have Zr : ∀ k, gI h7 30 k = 0 ∧ gR h7 30 k = (if k < 0 then some (31 + 3 * k) else none) ∧ gF h7 30 k = none := fun k => by
    rw [if_neg (Nat.not_lt_zero _)]
    exact ⟨((E7 30 (by decide) k).1).trans (Z6 k).1, ((E7 30 (by decide) k).2.1).trans (Z6 k).2.1, ((E7 30 (by decide) k).2.2).trans (Z6 k).2.2⟩
  refine v_iconst (v := nI 0) X (dk D_Ms_init 19 rfl) (by decide) ?_
  refine v_istore_n (lb := [some (.ref 25), some (.int (nI 0))]) X (dk D_Ms_init 20 rfl) (by decide) rfl ?_
  exact loop 317 0 h7 (by decide) T7 O7 (fun k => ⟨(Zr k).1, (Zr k).2.1, (Zr k).2.2⟩)
theorem WB_Di : Cond.methodLink "RescanMill$Diversions" 3 Lib.objectInit ∈ tbG := tb_in (i := 262) (by decide +kernel) (by decide +kernel)
theorem WL_Di_9 : Cond.classLink "RescanMill$Diversions" 9 "RescanMill$Cells" ∈ tbG := tb_in (i := 263) (by decide +kernel) (by decide +kernel)
theorem WL_Di_21 : Cond.classLink "RescanMill$Diversions" 21 "RescanMill$Chain" ∈ tbG := tb_in (i := 266) (by decide +kernel) (by decide +kernel)
theorem WO_Ch : Cond.arrayOver (.object "RescanMill$Chain") ∈ nstT := by simp [nstT]
theorem kdD : ∀ i, i < 10 → kdT (987 + i) = .inl 4 := by decide +kernel
theorem DI_of {i : Nat} (h : i < 10) : kdT (987 + i) = .inl 4 ∧ isCh (987 + i) = true ∧ (∀ k, iR0 (987 + i) k = none) ∧ ∀ k, fR0 (987 + i) k = none := ⟨kdD i h, decide_eq_true (Or.inr (by omega)), fun k => (zR_ok (by omega) k).symm, fun k => fR0_dv (by omega) (by omega)⟩
set_option maxHeartbeats 4000000 in
set_option maxRecDepth 100000 in
theorem k_Di_init (l : Launch) (q : ev_T)  {g : mu_T} (hg : gN g = 982 + 1) (hz0 : ∀ j, 982 ≤ j → zr g j) : Ctr l q M_Di_init 3 [.ref 982] (14, 65581, g) (fun v w => v = none ∧ mkM g w.2.2 982 997) := by
  refine Ctr.mk (lb := [some (.ref 982), none]) (by decide +kernel) (Nat.le_of_ble_eq_true rfl) rfl rfl ?_
  intro pp ee ss mm aa bb mt cd X hrt hlk hnm
  have hz : ∀ j, 982 < j → zr g j := fun j hj => hz0 j (by omega)
  obtain ⟨T0, O0⟩ := CT.start hg (hz0 982 (Nat.le_refl _))
  have loop : ∀ (d i : Nat) (h : mu_T), i + d = 10 → CT g h 982 (987 + i) [986] → OB h 982 (fun _ => 0) (fun _ => none) (va_up (va_up (fun _ => none) 1 (some 983)) 2 (some 986)) → (∀ k, gI h 986 k = 0 ∧ gR h 986 k = (if k < i then some (987 + 1 * k) else none) ∧ gF h 986 k = none) → Vv pp l ee (rmT 3 14 65581) ss mm aa bb mt cd 2 q (MQ bb (Qw q (fun v w => v = none ∧ mkM g w.2.2 982 997)) aa ss 14 65581 (fun a => q.1 ≤ a)) 28 [some (.ref 982), some (.int (nI i))] [] (1 * d, 3 * d, h) := by
    intro d
    induction d with
    | zero =>
      intro i h hid T O hrow
      have hi : i = 10 := by omega
      subst hi
      refine v_iload_n X (dk D_Di_init 14 rfl) rfl ?_
      refine v_aload_n X (dk D_Di_init 15 rfl) rfl ?_
      refine v_getF X (dk D_Di_init 16 rfl) F_Di_23 rfl rfl (by show 982 < gN h; rw [T.1]; omega) ((O 2).2.2.trans rfl) ?_
      refine v_alen (v := nI 10) X (dk D_Di_init 17 rfl) rfl rfl (by show 986 < gN h; rw [T.1]; omega) rfl ?_
      refine v_icmp_ge (tgt := 56) X (dk D_Di_init 18 rfl) (by decide) (fun _ => ?_) (fun c9 => absurd (nI_le (Nat.le_refl _) (by decide)) c9)
      exact v_vret X hlk hrt (dk D_Di_init 28 rfl) ⟨rfl, (T.done (fun k => ⟨(hrow k).1.trans (by rw [iI0, if_neg (by decide), if_neg (by rintro ⟨z, _⟩; revert z; decide), if_neg (by rintro ⟨z, _⟩; revert z; decide)]), (hrow k).2.1.trans (rD_ok k), (hrow k).2.2.trans (zf_ok (by decide +kernel) k)⟩)).fin O (zi_ok (by decide) (by decide)) (zR_ok (by decide)) (f64 (by decide +kernel) (u64 (u64 (fun _ _ => rfl) (by decide)) (by decide)) (fR0_64 982))⟩
    | succ d ih =>
      intro i h hid T O hrow
      refine v_iload_n X (dk D_Di_init 14 rfl) rfl ?_
      refine v_aload_n X (dk D_Di_init 15 rfl) rfl ?_
      refine v_getF X (dk D_Di_init 16 rfl) F_Di_23 rfl rfl (by show 982 < gN h; rw [T.1]; omega) ((O 2).2.2.trans rfl) ?_
      refine v_alen (v := nI 10) X (dk D_Di_init 17 rfl) rfl rfl (by show 986 < gN h; rw [T.1]; omega) rfl ?_
      refine v_icmp_ge (tgt := 56) X (dk D_Di_init 18 rfl) (by decide) (fun c9 => absurd c9 (nI_ge (by omega) (by omega))) (fun _ => ?_)
      refine v_aload_n X (dk D_Di_init 19 rfl) rfl ?_
      refine v_getF X (dk D_Di_init 20 rfl) F_Di_23 rfl rfl (by show 982 < gN h; rw [T.1]; omega) ((O 2).2.2.trans rfl) ?_
      refine v_iload_n X (dk D_Di_init 21 rfl) rfl ?_
      show Vv _ _ _ _ _ _ _ _ _ _ _ _ _ _ _ _ (1 * d + 0 + 1, 3 * d + 0 + nfT 4, h)
      refine v_nwC (bc := 1 * d + 0) (bs := 3 * d + 0) (i := (987 + i)) (ci := 4) X (dk D_Di_init 22 rfl) rfl WL_Di_21 WI_Ch WN_Ch in_Ch CK_Ch (by decide) (DI_of (show i < 10 by omega)).1 (by omega) hz T O (fun h1 T1 O1 N1 Z1 E1 => ?_)
      refine v_dup X (dk D_Di_init 23 rfl) rfl ?_
      refine v_icC (bc := 1 * d) (bs := 3 * d) (i := (987 + i)) (i2 := 987 + (i + 1)) (d := 1) (As := []) (st := [.ref (987 + i), .int (nI i), .ref 986]) X (k_Ch_init l q (a := 987 + i) N1 Z1 (DI_of (by omega)).1 (DI_of (by omega)).2.1 (DI_of (by omega)).2.2.1 (DI_of (by omega)).2.2.2) (dk D_Di_init 24 rfl) G_Di_27 K_Ch_init rfl rfl I_Ch_init rfl rfl (Nat.le_of_ble_eq_true rfl) (Nat.le_of_ble_eq_true rfl) (Nat.le_of_ble_eq_true rfl) (by omega) (by intro j hj; rw [List.mem_singleton.mp hj]; omega) (by omega) T1 O1 (fun h2 T2 O2 m2 => ?_)
      refine v_aast X (dk D_Di_init 25 rfl) rfl rfl (by decide) (by show 986 < gN h2; rw [T2.1]; omega) (vp_in_nI (show i < 10 by omega) (by decide)) (DI_of (show i < 10 by omega)).1 rfl (by show (987 + i) < gN h2; rw [T2.1]; omega) ?_
      rw [nI_clamp (by omega)]
      refine v_iinc (v := nI (i + 1)) (lb := [some (.ref 982), some (.int (nI (i + 1)))]) X (dk D_Di_init 26 rfl) rfl (nI_1 _) (by decide) rfl ?_
      refine v_goto (tgt := 28) X (dk D_Di_init 27 rfl) (by decide) ?_
      have hrow2 : ∀ k, gI h2 986 k = 0 ∧ gR h2 986 k = (if k < i then some (987 + 1 * k) else none) ∧ gF h2 986 k = none := fun k => by
        obtain ⟨p1, p2, p3⟩ := m2.2.1 986 (Or.inl (by omega)) k
        have e1 : gI h1 986 k = gI h 986 k ∧ gR h1 986 k = gR h 986 k ∧ gF h1 986 k = gF h 986 k := by
          obtain ⟨n1, r1⟩ := h1; obtain ⟨n0, r0⟩ := h; have E : r1 = r0 := E1; subst E; exact ⟨rfl, rfl, rfl⟩
        exact ⟨p1.trans (e1.1.trans (hrow k).1), p2.trans (e1.2.1.trans (hrow k).2.1), p3.trans (e1.2.2.trans (hrow k).2.2)⟩
      exact ih (i + 1) _ (by omega) (T2.rowR (List.mem_singleton.mpr rfl) (by decide) (by omega)) (O2.rowR (by decide)) (fun k => ⟨(hrow2 k).1, by
        by_cases e : k = i
        · rw [e, if_pos (by omega)]; exact (up2_eq _ _ _ _).trans (by rw [Nat.one_mul])
        · refine (show gR (xR h2 986 i _) 986 k = gR h2 986 k from up2_nk e).trans ((hrow2 k).2.1.trans ?_)
          by_cases e2 : k < i
          · rw [if_pos e2, if_pos (by omega)]
          · rw [if_neg e2, if_neg (by omega)], (hrow2 k).2.2⟩)
  refine v_aload_n X (dk D_Di_init 0 rfl) rfl ?_
  refine v_objInit X (dk D_Di_init 1 rfl) WB_Di W_obI W_obC (Nat.le_of_ble_eq_true rfl) (Nat.le_of_ble_eq_true rfl) (Nat.le_of_ble_eq_true rfl) ?_
  refine v_aload_n X (dk D_Di_init 2 rfl) rfl ?_
  refine v_nwC (bc := 13) (bs := 65576) (i := 983) (ci := 3) X (dk D_Di_init 3 rfl) rfl WL_Di_9 WI_Ce WN_Ce in_Ce CK_Ce (by decide) rfl (by decide) hz T0 O0 (fun h1 T1 O1 N1 Z1 _ => ?_)
  refine v_dup X (dk D_Di_init 4 rfl) rfl ?_
  refine v_ldc X (dk D_Di_init 5 rfl) C_Di_11 ?_
  refine v_icC (bc := 11) (bs := 40) (i := 983) (i2 := 986) (d := 1) (As := [.int (nI 32768)]) (st := [.ref 983, .ref 982]) X (k_Ce_init983 l q N1 Z1) (dk D_Di_init 6 rfl) G_Di_12 K_Ce_init rfl rfl I_Ce_init rfl rfl (Nat.le_of_ble_eq_true rfl) (Nat.le_of_ble_eq_true rfl) (Nat.le_of_ble_eq_true rfl) (by decide) (by decide) (by decide) T1 O1 (fun h2 T2 O2 _ => ?_)
  refine v_pFC (b := 983) X (dk D_Di_init 7 rfl) F_Di_15 CK_Di rfl rfl (Or.inl ⟨_, rfl⟩) hnm rfl T2 O2 (fun h3 T3 O3 E3 => ?_)
  refine v_aload_n X (dk D_Di_init 8 rfl) rfl ?_
  refine v_bipush (v := 10) X (dk D_Di_init 9 rfl) (by decide) ?_
  refine v_anC (bc := 10) (bs := 30) (i := 986) (N := 10) (t := 3) X (dk D_Di_init 10 rfl) rfl (by decide) WL_Di_21 WO_Ch (by decide) (by decide +kernel) (by decide) rfl (by decide) hz T3 O3 (fun h4 T4 O4 Z4 => ?_)
  refine v_pFC (b := 986) X (dk D_Di_init 11 rfl) F_Di_23 CK_Di rfl rfl (Or.inr ⟨_, rfl⟩) hnm rfl T4 O4 (fun h5 T5 O5 E5 => ?_)
  have Zr : ∀ k, gI h5 986 k = 0 ∧ gR h5 986 k = (if k < 0 then some (987 + 1 * k) else none) ∧ gF h5 986 k = none := fun k => by
    rw [if_neg (Nat.not_lt_zero _)]
    exact ⟨((E5 986 (by decide) k).1).trans (Z4 k).1, ((E5 986 (by decide) k).2.1).trans (Z4 k).2.1, ((E5 986 (by decide) k).2.2).trans (Z4 k).2.2⟩
  refine v_iconst (v := nI 0) X (dk D_Di_init 12 rfl) (by decide) ?_
  refine v_istore_n (lb := [some (.ref 982), some (.int (nI 0))]) X (dk D_Di_init 13 rfl) (by decide) rfl ?_
  exact loop 10 0 h5 (by decide) T5 O5 Zr
theorem WB_Mi : Cond.methodLink "RescanMill" 3 Lib.objectInit ∈ tbG := tb_in (i := 26) (by decide +kernel) (by decide +kernel)
theorem WL_Mi_9 : Cond.classLink "RescanMill" 9 "RescanMill$Bytes" ∈ tbG := tb_in (i := 29) (by decide +kernel) (by decide +kernel)
theorem WL_Mi_27 : Cond.classLink "RescanMill" 27 "RescanMill$Input" ∈ tbG := tb_in (i := 58) (by decide +kernel) (by decide +kernel)
theorem WI_In : Cond.instantiable "RescanMill$Input" 12 ∈ tbG := tb_in (i := 59) (by decide +kernel) (by decide +kernel)
theorem WN_In : Cond.initialized "RescanMill$Input" ∈ tbG := tb_in (i := 4) (by decide +kernel) (by decide +kernel)
theorem WL_Mi_34 : Cond.classLink "RescanMill" 34 "RescanMill$Calls" ∈ tbG := tb_in (i := 110) (by decide +kernel) (by decide +kernel)
theorem WI_Ca : Cond.instantiable "RescanMill$Calls" 9 ∈ tbG := tb_in (i := 111) (by decide +kernel) (by decide +kernel)
theorem WN_Ca : Cond.initialized "RescanMill$Calls" ∈ tbG := tb_in (i := 5) (by decide +kernel) (by decide +kernel)
theorem WL_Mi_41 : Cond.classLink "RescanMill" 41 "RescanMill$Meanings" ∈ tbG := tb_in (i := 152) (by decide +kernel) (by decide +kernel)
theorem WI_Ms : Cond.instantiable "RescanMill$Meanings" 6 ∈ tbG := tb_in (i := 153) (by decide +kernel) (by decide +kernel)
theorem WN_Ms : Cond.initialized "RescanMill$Meanings" ∈ tbG := tb_in (i := 6) (by decide +kernel) (by decide +kernel)
theorem WL_Mi_48 : Cond.classLink "RescanMill" 48 "RescanMill$Diversions" ∈ tbG := tb_in (i := 257) (by decide +kernel) (by decide +kernel)
theorem WI_Di : Cond.instantiable "RescanMill$Diversions" 3 ∈ tbG := tb_in (i := 258) (by decide +kernel) (by decide +kernel)
theorem WN_Di : Cond.initialized "RescanMill$Diversions" ∈ tbG := tb_in (i := 10) (by decide +kernel) (by decide +kernel)
theorem WL_Mi_55 : Cond.classLink "RescanMill" 55 "RescanMill$Expression" ∈ tbG := tb_in (i := 280) (by decide +kernel) (by decide +kernel)
theorem WI_Ex : Cond.instantiable "RescanMill$Expression" 10 ∈ tbG := tb_in (i := 281) (by decide +kernel) (by decide +kernel)
theorem WN_Ex : Cond.initialized "RescanMill$Expression" ∈ tbG := tb_in (i := 11) (by decide +kernel) (by decide +kernel)
set_option maxHeartbeats 4000000 in
set_option maxRecDepth 100000 in
theorem k_Mi_init (l : Launch) (q : ev_T)  {g : mu_T} (hg : gN g = 0 + 1) (hz0 : ∀ j, 0 ≤ j → zr g j) : Ctr l q M_Mi_init 4 [.ref 0] (1002, 300108, g) (fun v w => v = none ∧ mkM g w.2.2 0 1003) := by
  refine Ctr.mk (lb := [some (.ref 0)]) (by decide +kernel) (Nat.le_of_ble_eq_true rfl) rfl rfl ?_
  intro pp ee ss mm aa bb mt cd X hrt hlk hnm
  have hz : ∀ j, 0 < j → zr g j := fun j hj => hz0 j (by omega)
  obtain ⟨T0, O0⟩ := CT.start hg (hz0 0 (Nat.le_refl _))
  refine v_aload_n X (dk D_Mi_init 0 rfl) rfl ?_
  refine v_objInit X (dk D_Mi_init 1 rfl) WB_Mi W_obI W_obC (Nat.le_of_ble_eq_true rfl) (Nat.le_of_ble_eq_true rfl) (Nat.le_of_ble_eq_true rfl) ?_
  refine v_aload_n X (dk D_Mi_init 2 rfl) rfl ?_
  refine v_nwC (bc := 1001) (bs := 300105) (i := 1) (ci := 1) X (dk D_Mi_init 3 rfl) rfl WL_Mi_9 WI_By WN_By in_By CK_By (by decide) rfl (by decide) hz T0 O0 (fun h1 T1 O1 N1 Z1 _ => ?_)
  refine v_dup X (dk D_Mi_init 4 rfl) rfl ?_
  refine v_ldc X (dk D_Mi_init 5 rfl) C_Mi_13 ?_
  refine v_icC (bc := 1000) (bs := 267337) (i := 1) (i2 := 3) (d := 1) (As := [.int (nI 32768)]) (st := [.ref 1, .ref 0]) X (k_By_init l q (a := 1) (N := 32768) N1 Z1 (BZ_of rfl rfl (by decide) (by decide) (by decide) (by decide) (by decide +kernel) (by decide) (by decide) (by decide +kernel))) (dk D_Mi_init 6 rfl) G_Mi_14 K_By_init rfl rfl I_By_init rfl rfl (Nat.le_of_ble_eq_true rfl) (Nat.le_of_ble_eq_true rfl) (Nat.le_of_ble_eq_true rfl) (by decide) (by decide) (by decide) T1 O1 (fun h2 T2 O2 _ => ?_)
  refine v_pFC (b := 1) X (dk D_Mi_init 7 rfl) F_Mi_17 CK_Mi rfl rfl (Or.inl ⟨_, rfl⟩) hnm rfl T2 O2 (fun h3 T3 O3 E3 => ?_)
  refine v_aload_n X (dk D_Mi_init 8 rfl) rfl ?_
  refine v_nwC (bc := 999) (bs := 267334) (i := 3) (ci := 1) X (dk D_Mi_init 9 rfl) rfl WL_Mi_9 WI_By WN_By in_By CK_By (by decide) rfl (by decide) hz T3 O3 (fun h4 T4 O4 N4 Z4 _ => ?_)
  refine v_dup X (dk D_Mi_init 10 rfl) rfl ?_
  refine v_ldc X (dk D_Mi_init 11 rfl) C_Mi_13 ?_
  refine v_icC (bc := 998) (bs := 234566) (i := 3) (i2 := 5) (d := 1) (As := [.int (nI 32768)]) (st := [.ref 3, .ref 0]) X (k_By_init l q (a := 3) (N := 32768) N4 Z4 (BZ_of rfl rfl (by decide) (by decide) (by decide) (by decide) (by decide +kernel) (by decide) (by decide) (by decide +kernel))) (dk D_Mi_init 12 rfl) G_Mi_14 K_By_init rfl rfl I_By_init rfl rfl (Nat.le_of_ble_eq_true rfl) (Nat.le_of_ble_eq_true rfl) (Nat.le_of_ble_eq_true rfl) (by decide) (by decide) (by decide) T4 O4 (fun h5 T5 O5 _ => ?_)
  refine v_pFC (b := 3) X (dk D_Mi_init 13 rfl) F_Mi_21 CK_Mi rfl rfl (Or.inl ⟨_, rfl⟩) hnm rfl T5 O5 (fun h6 T6 O6 E6 => ?_)
  refine v_aload_n X (dk D_Mi_init 14 rfl) rfl ?_
  refine v_nwC (bc := 997) (bs := 234563) (i := 5) (ci := 1) X (dk D_Mi_init 15 rfl) rfl WL_Mi_9 WI_By WN_By in_By CK_By (by decide) rfl (by decide) hz T6 O6 (fun h7 T7 O7 N7 Z7 _ => ?_)
  refine v_dup X (dk D_Mi_init 16 rfl) rfl ?_
  refine v_ldc X (dk D_Mi_init 17 rfl) C_Mi_13 ?_
  refine v_icC (bc := 996) (bs := 201795) (i := 5) (i2 := 7) (d := 1) (As := [.int (nI 32768)]) (st := [.ref 5, .ref 0]) X (k_By_init l q (a := 5) (N := 32768) N7 Z7 (BZ_of rfl rfl (by decide) (by decide) (by decide) (by decide) (by decide +kernel) (by decide) (by decide) (by decide +kernel))) (dk D_Mi_init 18 rfl) G_Mi_14 K_By_init rfl rfl I_By_init rfl rfl (Nat.le_of_ble_eq_true rfl) (Nat.le_of_ble_eq_true rfl) (Nat.le_of_ble_eq_true rfl) (by decide) (by decide) (by decide) T7 O7 (fun h8 T8 O8 _ => ?_)
  refine v_pFC (b := 5) X (dk D_Mi_init 19 rfl) F_Mi_24 CK_Mi rfl rfl (Or.inl ⟨_, rfl⟩) hnm rfl T8 O8 (fun h9 T9 O9 E9 => ?_)
  refine v_aload_n X (dk D_Mi_init 20 rfl) rfl ?_
  refine v_nwC (bc := 995) (bs := 201783) (i := 7) (ci := 7) X (dk D_Mi_init 21 rfl) rfl WL_Mi_27 WI_In WN_In in_In CK_In (by decide) rfl (by decide) hz T9 O9 (fun h10 T10 O10 N10 Z10 _ => ?_)
  refine v_dup X (dk D_Mi_init 22 rfl) rfl ?_
  refine v_icC (bc := 986) (bs := 136227) (i := 7) (i2 := 17) (d := 2) (As := []) (st := [.ref 7, .ref 0]) X (k_In_init l q N10 Z10) (dk D_Mi_init 23 rfl) G_Mi_29 K_In_init rfl rfl I_In_init rfl rfl (Nat.le_of_ble_eq_true rfl) (Nat.le_of_ble_eq_true rfl) (Nat.le_of_ble_eq_true rfl) (by decide) (by decide) (by decide) T10 O10 (fun h11 T11 O11 _ => ?_)
  refine v_pFC (b := 7) X (dk D_Mi_init 24 rfl) F_Mi_30 CK_Mi rfl rfl (Or.inl ⟨_, rfl⟩) hnm rfl T11 O11 (fun h12 T12 O12 E12 => ?_)
  refine v_aload_n X (dk D_Mi_init 25 rfl) rfl ?_
  refine v_nwC (bc := 985) (bs := 136218) (i := 17) (ci := 2) X (dk D_Mi_init 26 rfl) rfl WL_Mi_34 WI_Ca WN_Ca in_Ca CK_Ca (by decide) rfl (by decide) hz T12 O12 (fun h13 T13 O13 N13 Z13 _ => ?_)
  refine v_dup X (dk D_Mi_init 27 rfl) rfl ?_
  refine v_icC (bc := 978) (bs := 111439) (i := 17) (i2 := 25) (d := 2) (As := []) (st := [.ref 17, .ref 0]) X (k_Ca_init l q N13 Z13) (dk D_Mi_init 28 rfl) G_Mi_36 K_Ca_init rfl rfl I_Ca_init rfl rfl (Nat.le_of_ble_eq_true rfl) (Nat.le_of_ble_eq_true rfl) (Nat.le_of_ble_eq_true rfl) (by decide) (by decide) (by decide) T13 O13 (fun h14 T14 O14 _ => ?_)
  refine v_pFC (b := 17) X (dk D_Mi_init 29 rfl) F_Mi_37 CK_Mi rfl rfl (Or.inl ⟨_, rfl⟩) hnm rfl T14 O14 (fun h15 T15 O15 E15 => ?_)
  refine v_aload_n X (dk D_Mi_init 30 rfl) rfl ?_
  refine v_nwC (bc := 977) (bs := 111433) (i := 25) (ci := 9) X (dk D_Mi_init 31 rfl) rfl WL_Mi_41 WI_Ms WN_Ms in_Ms CK_Ms (by decide) rfl (by decide) hz T15 O15 (fun h16 T16 O16 N16 Z16 _ => ?_)
  refine v_dup X (dk D_Mi_init 32 rfl) rfl ?_
  refine v_icC (bc := 21) (bs := 74472) (i := 25) (i2 := 982) (d := 3) (As := []) (st := [.ref 25, .ref 0]) X (k_Ms_init l q N16 Z16) (dk D_Mi_init 33 rfl) G_Mi_43 K_Ms_init rfl rfl I_Ms_init rfl rfl (Nat.le_of_ble_eq_true rfl) (Nat.le_of_ble_eq_true rfl) (Nat.le_of_ble_eq_true rfl) (by decide) (by decide) (by decide) T16 O16 (fun h17 T17 O17 _ => ?_)
  refine v_pFC (b := 25) X (dk D_Mi_init 34 rfl) F_Mi_44 CK_Mi rfl rfl (Or.inl ⟨_, rfl⟩) hnm rfl T17 O17 (fun h18 T18 O18 E18 => ?_)
  refine v_aload_n X (dk D_Mi_init 35 rfl) rfl ?_
  refine v_nwC (bc := 20) (bs := 74469) (i := 982) (ci := 5) X (dk D_Mi_init 36 rfl) rfl WL_Mi_48 WI_Di WN_Di in_Di CK_Di (by decide) rfl (by decide) hz T18 O18 (fun h19 T19 O19 N19 Z19 _ => ?_)
  refine v_dup X (dk D_Mi_init 37 rfl) rfl ?_
  refine v_icC (bc := 6) (bs := 8888) (i := 982) (i2 := 997) (d := 3) (As := []) (st := [.ref 982, .ref 0]) X (k_Di_init l q N19 Z19) (dk D_Mi_init 38 rfl) G_Mi_50 K_Di_init rfl rfl I_Di_init rfl rfl (Nat.le_of_ble_eq_true rfl) (Nat.le_of_ble_eq_true rfl) (Nat.le_of_ble_eq_true rfl) (by decide) (by decide) (by decide) T19 O19 (fun h20 T20 O20 _ => ?_)
  refine v_pFC (b := 982) X (dk D_Mi_init 39 rfl) F_Mi_51 CK_Mi rfl rfl (Or.inl ⟨_, rfl⟩) hnm rfl T20 O20 (fun h21 T21 O21 E21 => ?_)
  refine v_aload_n X (dk D_Mi_init 40 rfl) rfl ?_
  refine v_nwC (bc := 5) (bs := 8878) (i := 997) (ci := 6) X (dk D_Mi_init 41 rfl) rfl WL_Mi_55 WI_Ex WN_Ex in_Ex CK_Ex (by decide) rfl (by decide) hz T21 O21 (fun h22 T22 O22 N22 Z22 _ => ?_)
  refine v_dup X (dk D_Mi_init 42 rfl) rfl ?_
  refine v_icC (bc := 1) (bs := 8192) (i := 997) (i2 := 1002) (d := 2) (As := []) (st := [.ref 997, .ref 0]) X (k_Ex_init l q N22 Z22) (dk D_Mi_init 43 rfl) G_Mi_57 K_Ex_init rfl rfl I_Ex_init rfl rfl (Nat.le_of_ble_eq_true rfl) (Nat.le_of_ble_eq_true rfl) (Nat.le_of_ble_eq_true rfl) (by decide) (by decide) (by decide) T22 O22 (fun h23 T23 O23 _ => ?_)
  refine v_pFC (b := 997) X (dk D_Mi_init 44 rfl) F_Mi_58 CK_Mi rfl rfl (Or.inl ⟨_, rfl⟩) hnm rfl T23 O23 (fun h24 T24 O24 E24 => ?_)
  refine v_aload_n X (dk D_Mi_init 45 rfl) rfl ?_
  refine v_sipush (v := 8192) X (dk D_Mi_init 46 rfl) (by decide) ?_
  refine v_naC (bc := 0) (bs := 0) (i := 1002) (N := 8192) (t := 0) X (dk D_Mi_init 47 rfl) rfl (by decide) (fun U cA hh => va_nm_int hh) rfl WA_int (by decide) (by decide +kernel) (by decide) rfl (by decide) (zz_ok (by decide) (by decide) (by decide +kernel)) hz T24 O24 (fun h25 T25 O25 => ?_)
  refine v_pFC (b := 1002) X (dk D_Mi_init 48 rfl) F_Mi_62 CK_Mi rfl rfl (Or.inr ⟨_, rfl⟩) hnm rfl T25 O25 (fun h26 T26 O26 E26 => ?_)
  exact v_vret X hlk hrt (dk D_Mi_init 49 rfl) ⟨rfl, T26.fin O26 (zi_ok (by decide) (by decide)) (zR_ok (by decide)) (f64 (by decide +kernel) (u64 (u64 (u64 (u64 (u64 (u64 (u64 (u64 (u64 (fun _ _ => rfl) (by decide)) (by decide)) (by decide)) (by decide)) (by decide)) (by decide)) (by decide)) (by decide)) (by decide)) (fR0_64 0))⟩
