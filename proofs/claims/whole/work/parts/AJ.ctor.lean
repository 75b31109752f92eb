/-! making: the constructors -/
theorem zz_ok {i : Nat} (h1 : isCh i = false) (h2 : i ≠ 26 ∧ i ≠ 983 ∧ i ≠ 7 ∧ i ≠ 30 ∧ i ≠ 986 ∧ i ≠ 997) (h3 : ∀ k, k < 64 → fR0 i k = none) : ∀ k, iI0 i k = 0 ∧ iR0 i k = none ∧ fR0 i k = none := fun k => by
  obtain ⟨a1, a2, a3, a4, a5, a6⟩ := h2
  refine ⟨?_, ?_, ?_⟩
  · rw [iI0, if_neg (by rw [h1]; decide), if_neg (fun z => z.1.elim a1 a2), if_neg (fun z => a3 z.1)]
  · rw [iR0, if_neg (fun z => a3 z.1), if_neg (fun z => a4 z.1), if_neg (fun z => a5 z.1), if_neg (fun z => a6 z.1)]
  · by_cases e : k < 64
    · exact h3 k e
    · exact fR0_64 i k (by omega)
theorem zi_ok {i : Nat} (h1 : isCh i = false) (h2 : i ≠ 26 ∧ i ≠ 983 ∧ i ≠ 7) : ∀ k, (fun _ => (0 : Int32)) k = iI0 i k := fun k => by
  obtain ⟨a1, a2, a3⟩ := h2
  rw [iI0, if_neg (by rw [h1]; decide), if_neg (fun z => z.1.elim a1 a2), if_neg (fun z => a3 z.1)]
theorem zR_ok {i : Nat} (h2 : i ≠ 7 ∧ i ≠ 30 ∧ i ≠ 986 ∧ i ≠ 997) : ∀ k, (fun _ => (none : Option Nat)) k = iR0 i k := fun k => by
  obtain ⟨a3, a4, a5, a6⟩ := h2
  rw [iR0, if_neg (fun z => a3 z.1), if_neg (fun z => a4 z.1), if_neg (fun z => a5 z.1), if_neg (fun z => a6 z.1)]
theorem max0 {N : Nat} (h : N < 1073741824) : (if nI N < 0 then (0 : Int32) else nI N) = nI N := if_neg (nI_pos (by omega))
theorem WB_By : Cond.methodLink "RescanMill$Bytes" 3 Lib.objectInit ∈ tbG := tb_in (i := 35) (by decide +kernel) (by decide +kernel)
theorem WX_By : Cond.methodLink "RescanMill$Bytes" 9 Lib.Math.max.name ∈ tbG := tb_in (i := 36) (by decide +kernel) (by decide +kernel)
theorem WA_byte : Cond.arrayClass .byte ∈ tbG := tb_in (i := 57) (by decide +kernel) (by decide +kernel)
def BZ (a N : Nat) : Prop := kdT a = .inl 1 ∧ kdT (a + 1) = .inr (1, N) ∧ N ≤ 400000 ∧ a < 2000 ∧ (∀ k, iI0 a k = 0 ∧ iR0 a k = none) ∧ (∀ k, va_up (fun _ => none) 0 (some (a + 1)) k = fR0 a k) ∧ ∀ k, iI0 (a + 1) k = 0 ∧ iR0 (a + 1) k = none ∧ fR0 (a + 1) k = none
theorem BZ_of {a N : Nat} (h1 : kdT a = .inl 1) (h2 : kdT (a + 1) = .inr (1, N)) (h3 : N ≤ 400000) (h4 : a < 2000) (h5 : isCh a = false) (h6 : a ≠ 26 ∧ a ≠ 983 ∧ a ≠ 7 ∧ a ≠ 30 ∧ a ≠ 986 ∧ a ≠ 997) (h7 : ∀ k, k < 64 → va_up (fun _ => none) 0 (some (a + 1)) k = fR0 a k) (h8 : isCh (a + 1) = false) (h9 : a + 1 ≠ 26 ∧ a + 1 ≠ 983 ∧ a + 1 ≠ 7 ∧ a + 1 ≠ 30 ∧ a + 1 ≠ 986 ∧ a + 1 ≠ 997) (h10 : ∀ k, k < 64 → fR0 (a + 1) k = none) : BZ a N := ⟨h1, h2, h3, h4, fun k => ⟨(zi_ok h5 ⟨h6.1, h6.2.1, h6.2.2.1⟩ k).symm, (zR_ok ⟨h6.2.2.1, h6.2.2.2⟩ k).symm⟩, f64 h7 (u64 (fun _ _ => rfl) (by decide)) (fR0_64 a), zz_ok h8 h9 h10⟩
set_option maxHeartbeats 4000000 in
set_option maxRecDepth 100000 in
theorem k_By_init (l : Launch) (q : ev_T) {a N : Nat} {g : mu_T} (hg : gN g = a + 1) (hz0 : ∀ j, a ≤ j → zr g j) (hB : BZ a N) : Ctr l q M_By_init 1 [.ref a, .int (nI N)] (1, N, g) (fun v w => v = none ∧ mkM g w.2.2 a (a + 1 + 1)) := by
  refine Ctr.mk (lb := [some (.ref a), some (.int (nI N))]) (by decide +kernel) (Nat.le_of_ble_eq_true rfl) rfl rfl ?_
  intro pp ee ss mm aa bb mt cd X hrt hlk hnm
  obtain ⟨hka, hkr, hNb, hab, ha0, hf0, hr0⟩ := hB
  have hz : ∀ j, a < j → zr g j := fun j hj => hz0 j (by omega)
  obtain ⟨T0, O0⟩ := CT.start hg (hz0 a (Nat.le_refl _))
  rw [show ((1, N, g) : mm_T) = (0 + 1, 0 + N, g) from by rw [Nat.zero_add, Nat.zero_add]]
  refine v_aload_n X (dk D_By_init 0 rfl) rfl ?_
  refine v_objInit X (dk D_By_init 1 rfl) WB_By W_obI W_obC (Nat.le_of_ble_eq_true rfl) (Nat.le_of_ble_eq_true rfl) (Nat.le_of_ble_eq_true rfl) ?_
  refine v_aload_n X (dk D_By_init 2 rfl) rfl ?_
  refine v_iload_n X (dk D_By_init 3 rfl) rfl ?_
  refine v_iconst (v := 0) X (dk D_By_init 4 rfl) (by decide) ?_
  refine v_max (z := (nI N)) X (dk D_By_init 5 rfl) WX_By W_maxS W_mathI W_maxC (Nat.le_of_ble_eq_true rfl) (Nat.le_of_ble_eq_true rfl) (Nat.le_of_ble_eq_true rfl) (max0 (by omega)) ?_
  refine v_naC (bc := 0) (bs := 0) (i := (a + 1)) (N := N) (t := 1) X (dk D_By_init 6 rfl) rfl (by decide) (fun U cA hh => va_nm_byte hh) rfl WA_byte (nI_pos (by omega)) (nI_clamp (by omega)) (Nat.le_trans (Nat.mul_le_mul_left _ (show componentBytes (newarray.typeOf .byte) ≤ 4 by decide)) (by omega)) hkr (by omega) hr0 hz T0 O0 (fun h1 T1 O1 => ?_)
  refine v_pFC (b := (a + 1)) X (dk D_By_init 7 rfl) F_By_15 CK_By rfl hka (Or.inr ⟨_, rfl⟩) hnm rfl T1 O1 (fun h2 T2 O2 E2 => ?_)
  exact v_vret X hlk hrt (dk D_By_init 8 rfl) ⟨rfl, T2.fin O2 (fun k => (ha0 k).1.symm) (fun k => (ha0 k).2.symm) hf0⟩
theorem WB_Ch : Cond.methodLink "RescanMill$Chain" 1 Lib.objectInit ∈ tbG := tb_in (i := 195) (by decide +kernel) (by decide +kernel)
theorem ch_ok (k : Nat) : va_up (va_up (fun _ => (0 : Int32)) 0 (-1)) 1 (-1) k = if k < 2 then -1 else 0 := by
  by_cases e1 : k = 1
  · rw [e1, va_up_eq]; rfl
  · rw [va_up_ne' e1]
    by_cases e0 : k = 0
    · rw [e0, va_up_eq]; rfl
    · rw [va_up_ne' e0, if_neg (by omega)]
set_option maxHeartbeats 4000000 in
set_option maxRecDepth 100000 in
theorem k_Ch_init (l : Launch) (q : ev_T) {a : Nat} {g : mu_T} (hg : gN g = a + 1) (hz0 : ∀ j, a ≤ j → zr g j) (hka : kdT a = .inl 4) (hch : isCh a = true) (hr : ∀ k, iR0 a k = none) (hf : ∀ k, fR0 a k = none) : Ctr l q M_Ch_init 1 [.ref a] (0, 0, g) (fun v w => v = none ∧ mkM g w.2.2 a (a + 1)) := by
  refine Ctr.mk (lb := [some (.ref a)]) (by decide +kernel) (Nat.le_of_ble_eq_true rfl) rfl rfl ?_
  intro pp ee ss mm aa bb mt cd X hrt hlk hnm
  have hz : ∀ j, a < j → zr g j := fun j hj => hz0 j (by omega)
  obtain ⟨T0, O0⟩ := CT.start hg (hz0 a (Nat.le_refl _))
  refine v_aload_n X (dk D_Ch_init 0 rfl) rfl ?_
  refine v_objInit X (dk D_Ch_init 1 rfl) WB_Ch W_obI W_obC (Nat.le_of_ble_eq_true rfl) (Nat.le_of_ble_eq_true rfl) (Nat.le_of_ble_eq_true rfl) ?_
  refine v_aload_n X (dk D_Ch_init 2 rfl) rfl ?_
  refine v_iconst (v := -1) X (dk D_Ch_init 3 rfl) (by decide) ?_
  refine v_pIC X (dk D_Ch_init 4 rfl) F_Ch_7 CK_Ch rfl hka rfl rfl T0 O0 (fun h1 T1 O1 => ?_)
  refine v_aload_n X (dk D_Ch_init 5 rfl) rfl ?_
  refine v_iconst (v := -1) X (dk D_Ch_init 6 rfl) (by decide) ?_
  refine v_pIC X (dk D_Ch_init 7 rfl) F_Ch_13 CK_Ch rfl hka rfl rfl T1 O1 (fun h2 T2 O2 => ?_)
  exact v_vret X hlk hrt (dk D_Ch_init 8 rfl) ⟨rfl, T2.fin O2 (fun k => by rw [iI0, if_pos hch]; exact ch_ok k) (fun k => (hr k).symm) (fun k => (hf k).symm)⟩
theorem WB_Ce : Cond.methodLink "RescanMill$Cells" 1 Lib.objectInit ∈ tbG := tb_in (i := 163) (by decide +kernel) (by decide +kernel)
theorem WX_Ce : Cond.methodLink "RescanMill$Cells" 13 Lib.Math.max.name ∈ tbG := tb_in (i := 164) (by decide +kernel) (by decide +kernel)
theorem WA_int : Cond.arrayClass .int ∈ tbG := tb_in (i := 150) (by decide +kernel) (by decide +kernel)
theorem ce_ok (k : Nat) : va_up (fun _ => (0 : Int32)) 3 (-1) k = if k = 3 then -1 else 0 := by
  by_cases e : k = 3
  · rw [e, va_up_eq]; rfl
  · rw [va_up_ne' e, if_neg e]
theorem ceI {a k : Nat} (ha : isCh a = false) (hb : a = 26 ∨ a = 983) : va_up (fun _ => (0 : Int32)) 3 (-1) k = iI0 a k := by
  rw [ce_ok]
  by_cases e : k = 3
  · rw [if_pos e, iI0, if_neg (by rw [ha]; decide), if_pos ⟨hb, e⟩]
  · rw [if_neg e, iI0, if_neg (by rw [ha]; decide), if_neg (fun z => e z.2), if_neg (fun z => by omega)]
set_option maxHeartbeats 4000000 in
set_option maxRecDepth 100000 in
theorem k_Ce_init26 (l : Launch) (q : ev_T)  {g : mu_T} (hg : gN g = 26 + 1) (hz0 : ∀ j, 26 ≤ j → zr g j) : Ctr l q M_Ce_init 1 [.ref 26, .int (nI 16512)] (2, 33024, g) (fun v w => v = none ∧ mkM g w.2.2 26 29) := by
  refine Ctr.mk (lb := [some (.ref 26), some (.int (nI 16512))]) (by decide +kernel) (Nat.le_of_ble_eq_true rfl) rfl rfl ?_
  intro pp ee ss mm aa bb mt cd X hrt hlk hnm
  have hz : ∀ j, 26 < j → zr g j := fun j hj => hz0 j (by omega)
  obtain ⟨T0, O0⟩ := CT.start hg (hz0 26 (Nat.le_refl _))
  refine v_aload_n X (dk D_Ce_init 0 rfl) rfl ?_
  refine v_objInit X (dk D_Ce_init 1 rfl) WB_Ce W_obI W_obC (Nat.le_of_ble_eq_true rfl) (Nat.le_of_ble_eq_true rfl) (Nat.le_of_ble_eq_true rfl) ?_
  refine v_aload_n X (dk D_Ce_init 2 rfl) rfl ?_
  refine v_iconst (v := -1) X (dk D_Ce_init 3 rfl) (by decide) ?_
  refine v_pIC X (dk D_Ce_init 4 rfl) F_Ce_7 CK_Ce rfl rfl rfl rfl T0 O0 (fun h1 T1 O1 => ?_)
  refine v_aload_n X (dk D_Ce_init 5 rfl) rfl ?_
  refine v_iload_n X (dk D_Ce_init 6 rfl) rfl ?_
  refine v_iconst (v := 0) X (dk D_Ce_init 7 rfl) (by decide) ?_
  refine v_max (z := (nI 16512)) X (dk D_Ce_init 8 rfl) WX_Ce W_maxS W_mathI W_maxC (Nat.le_of_ble_eq_true rfl) (Nat.le_of_ble_eq_true rfl) (Nat.le_of_ble_eq_true rfl) (max0 (by decide)) ?_
  refine v_naC (bc := 1) (bs := 16512) (i := 27) (N := 16512) (t := 1) X (dk D_Ce_init 9 rfl) rfl (by decide) (fun U cA hh => va_nm_byte hh) rfl WA_byte (nI_pos (by decide)) (nI_clamp (by decide)) (Nat.le_trans (Nat.mul_le_mul_left _ (show componentBytes (newarray.typeOf .byte) ≤ 4 by decide)) (by decide)) rfl (by decide) (zz_ok (by decide) (by decide) (by decide +kernel)) hz T1 O1 (fun h2 T2 O2 => ?_)
  refine v_pFC (b := 27) X (dk D_Ce_init 10 rfl) F_Ce_19 CK_Ce rfl rfl (Or.inr ⟨_, rfl⟩) hnm rfl T2 O2 (fun h3 T3 O3 E3 => ?_)
  refine v_aload_n X (dk D_Ce_init 11 rfl) rfl ?_
  refine v_iload_n X (dk D_Ce_init 12 rfl) rfl ?_
  refine v_iconst (v := 0) X (dk D_Ce_init 13 rfl) (by decide) ?_
  refine v_max (z := (nI 16512)) X (dk D_Ce_init 14 rfl) WX_Ce W_maxS W_mathI W_maxC (Nat.le_of_ble_eq_true rfl) (Nat.le_of_ble_eq_true rfl) (Nat.le_of_ble_eq_true rfl) (max0 (by decide)) ?_
  refine v_naC (bc := 0) (bs := 0) (i := 28) (N := 16512) (t := 0) X (dk D_Ce_init 15 rfl) rfl (by decide) (fun U cA hh => va_nm_int hh) rfl WA_int (nI_pos (by decide)) (nI_clamp (by decide)) (Nat.le_trans (Nat.mul_le_mul_left _ (show componentBytes (newarray.typeOf .int) ≤ 4 by decide)) (by decide)) rfl (by decide) (zz_ok (by decide) (by decide) (by decide +kernel)) hz T3 O3 (fun h4 T4 O4 => ?_)
  refine v_pFC (b := 28) X (dk D_Ce_init 16 rfl) F_Ce_23 CK_Ce rfl rfl (Or.inr ⟨_, rfl⟩) hnm rfl T4 O4 (fun h5 T5 O5 E5 => ?_)
  exact v_vret X hlk hrt (dk D_Ce_init 17 rfl) ⟨rfl, T5.fin O5 (fun k => ceI (by decide) (by decide)) (zR_ok (by decide)) (f64 (by decide +kernel) (u64 (u64 (fun _ _ => rfl) (by decide)) (by decide)) (fR0_64 26))⟩
set_option maxHeartbeats 4000000 in
set_option maxRecDepth 100000 in
theorem k_Ce_init983 (l : Launch) (q : ev_T)  {g : mu_T} (hg : gN g = 983 + 1) (hz0 : ∀ j, 983 ≤ j → zr g j) : Ctr l q M_Ce_init 1 [.ref 983, .int (nI 32768)] (2, 65536, g) (fun v w => v = none ∧ mkM g w.2.2 983 986) := by
  refine Ctr.mk (lb := [some (.ref 983), some (.int (nI 32768))]) (by decide +kernel) (Nat.le_of_ble_eq_true rfl) rfl rfl ?_
  intro pp ee ss mm aa bb mt cd X hrt hlk hnm
  have hz : ∀ j, 983 < j → zr g j := fun j hj => hz0 j (by omega)
  obtain ⟨T0, O0⟩ := CT.start hg (hz0 983 (Nat.le_refl _))
  refine v_aload_n X (dk D_Ce_init 0 rfl) rfl ?_
  refine v_objInit X (dk D_Ce_init 1 rfl) WB_Ce W_obI W_obC (Nat.le_of_ble_eq_true rfl) (Nat.le_of_ble_eq_true rfl) (Nat.le_of_ble_eq_true rfl) ?_
  refine v_aload_n X (dk D_Ce_init 2 rfl) rfl ?_
  refine v_iconst (v := -1) X (dk D_Ce_init 3 rfl) (by decide) ?_
  refine v_pIC X (dk D_Ce_init 4 rfl) F_Ce_7 CK_Ce rfl rfl rfl rfl T0 O0 (fun h1 T1 O1 => ?_)
  refine v_aload_n X (dk D_Ce_init 5 rfl) rfl ?_
  refine v_iload_n X (dk D_Ce_init 6 rfl) rfl ?_
  refine v_iconst (v := 0) X (dk D_Ce_init 7 rfl) (by decide) ?_
  refine v_max (z := (nI 32768)) X (dk D_Ce_init 8 rfl) WX_Ce W_maxS W_mathI W_maxC (Nat.le_of_ble_eq_true rfl) (Nat.le_of_ble_eq_true rfl) (Nat.le_of_ble_eq_true rfl) (max0 (by decide)) ?_
  refine v_naC (bc := 1) (bs := 32768) (i := 984) (N := 32768) (t := 1) X (dk D_Ce_init 9 rfl) rfl (by decide) (fun U cA hh => va_nm_byte hh) rfl WA_byte (nI_pos (by decide)) (nI_clamp (by decide)) (Nat.le_trans (Nat.mul_le_mul_left _ (show componentBytes (newarray.typeOf .byte) ≤ 4 by decide)) (by decide)) rfl (by decide) (zz_ok (by decide) (by decide) (by decide +kernel)) hz T1 O1 (fun h2 T2 O2 => ?_)
  refine v_pFC (b := 984) X (dk D_Ce_init 10 rfl) F_Ce_19 CK_Ce rfl rfl (Or.inr ⟨_, rfl⟩) hnm rfl T2 O2 (fun h3 T3 O3 E3 => ?_)
  refine v_aload_n X (dk D_Ce_init 11 rfl) rfl ?_
  refine v_iload_n X (dk D_Ce_init 12 rfl) rfl ?_
  refine v_iconst (v := 0) X (dk D_Ce_init 13 rfl) (by decide) ?_
  refine v_max (z := (nI 32768)) X (dk D_Ce_init 14 rfl) WX_Ce W_maxS W_mathI W_maxC (Nat.le_of_ble_eq_true rfl) (Nat.le_of_ble_eq_true rfl) (Nat.le_of_ble_eq_true rfl) (max0 (by decide)) ?_
  refine v_naC (bc := 0) (bs := 0) (i := 985) (N := 32768) (t := 0) X (dk D_Ce_init 15 rfl) rfl (by decide) (fun U cA hh => va_nm_int hh) rfl WA_int (nI_pos (by decide)) (nI_clamp (by decide)) (Nat.le_trans (Nat.mul_le_mul_left _ (show componentBytes (newarray.typeOf .int) ≤ 4 by decide)) (by decide)) rfl (by decide) (zz_ok (by decide) (by decide) (by decide +kernel)) hz T3 O3 (fun h4 T4 O4 => ?_)
  refine v_pFC (b := 985) X (dk D_Ce_init 16 rfl) F_Ce_23 CK_Ce rfl rfl (Or.inr ⟨_, rfl⟩) hnm rfl T4 O4 (fun h5 T5 O5 E5 => ?_)
  exact v_vret X hlk hrt (dk D_Ce_init 17 rfl) ⟨rfl, T5.fin O5 (fun k => ceI (by decide) (by decide)) (zR_ok (by decide)) (f64 (by decide +kernel) (u64 (u64 (fun _ _ => rfl) (by decide)) (by decide)) (fR0_64 983))⟩
theorem WB_Ca : Cond.methodLink "RescanMill$Calls" 3 Lib.objectInit ∈ tbG := tb_in (i := 115) (by decide +kernel) (by decide +kernel)
theorem WL_Ca_9 : Cond.classLink "RescanMill$Calls" 9 "RescanMill$Bytes" ∈ tbG := tb_in (i := 116) (by decide +kernel) (by decide +kernel)
theorem WI_By : Cond.instantiable "RescanMill$Bytes" 3 ∈ tbG := tb_in (i := 30) (by decide +kernel) (by decide +kernel)
theorem WN_By : Cond.initialized "RescanMill$Bytes" ∈ tbG := tb_in (i := 2) (by decide +kernel) (by decide +kernel)
theorem WA_boolean : Cond.arrayClass .boolean ∈ tbG := tb_in (i := 151) (by decide +kernel) (by decide +kernel)
set_option maxHeartbeats 4000000 in
set_option maxRecDepth 100000 in
theorem k_Ca_init (l : Launch) (q : ev_T)  {g : mu_T} (hg : gN g = 17 + 1) (hz0 : ∀ j, 17 ≤ j → zr g j) : Ctr l q M_Ca_init 2 [.ref 17] (7, 24779, g) (fun v w => v = none ∧ mkM g w.2.2 17 25) := by
  refine Ctr.mk (lb := [some (.ref 17)]) (by decide +kernel) (Nat.le_of_ble_eq_true rfl) rfl rfl ?_
  intro pp ee ss mm aa bb mt cd X hrt hlk hnm
  have hz : ∀ j, 17 < j → zr g j := fun j hj => hz0 j (by omega)
  obtain ⟨T0, O0⟩ := CT.start hg (hz0 17 (Nat.le_refl _))
  refine v_aload_n X (dk D_Ca_init 0 rfl) rfl ?_
  refine v_objInit X (dk D_Ca_init 1 rfl) WB_Ca W_obI W_obC (Nat.le_of_ble_eq_true rfl) (Nat.le_of_ble_eq_true rfl) (Nat.le_of_ble_eq_true rfl) ?_
  refine v_aload_n X (dk D_Ca_init 2 rfl) rfl ?_
  refine v_nwC (bc := 6) (bs := 24776) (i := 18) (ci := 1) X (dk D_Ca_init 3 rfl) rfl WL_Ca_9 WI_By WN_By in_By CK_By (by decide) rfl (by decide) hz T0 O0 (fun h1 T1 O1 N1 Z1 _ => ?_)
  refine v_dup X (dk D_Ca_init 4 rfl) rfl ?_
  refine v_sipush (v := 16384) X (dk D_Ca_init 5 rfl) (by decide) ?_
  refine v_icC (bc := 5) (bs := 8392) (i := 18) (i2 := 20) (d := 1) (As := [.int (nI 16384)]) (st := [.ref 18, .ref 17]) X (k_By_init l q (a := 18) (N := 16384) N1 Z1 (BZ_of rfl rfl (by decide) (by decide) (by decide) (by decide) (by decide +kernel) (by decide) (by decide) (by decide +kernel))) (dk D_Ca_init 6 rfl) G_Ca_11 K_By_init rfl rfl I_By_init rfl rfl (Nat.le_of_ble_eq_true rfl) (Nat.le_of_ble_eq_true rfl) (Nat.le_of_ble_eq_true rfl) (by decide) (by decide) (by decide) T1 O1 (fun h2 T2 O2 _ => ?_)
  refine v_pFC (b := 18) X (dk D_Ca_init 7 rfl) F_Ca_14 CK_Ca rfl rfl (Or.inl ⟨_, rfl⟩) hnm rfl T2 O2 (fun h3 T3 O3 E3 => ?_)
  refine v_aload_n X (dk D_Ca_init 8 rfl) rfl ?_
  refine v_sipush (v := 8192) X (dk D_Ca_init 9 rfl) (by decide) ?_
  refine v_naC (bc := 4) (bs := 200) (i := 20) (N := 8192) (t := 0) X (dk D_Ca_init 10 rfl) rfl (by decide) (fun U cA hh => va_nm_int hh) rfl WA_int (by decide) (by decide +kernel) (by decide) rfl (by decide) (zz_ok (by decide) (by decide) (by decide +kernel)) hz T3 O3 (fun h4 T4 O4 => ?_)
  refine v_pFC (b := 20) X (dk D_Ca_init 11 rfl) F_Ca_20 CK_Ca rfl rfl (Or.inr ⟨_, rfl⟩) hnm rfl T4 O4 (fun h5 T5 O5 E5 => ?_)
  refine v_aload_n X (dk D_Ca_init 12 rfl) rfl ?_
  refine v_bipush (v := 50) X (dk D_Ca_init 13 rfl) (by decide) ?_
  refine v_naC (bc := 3) (bs := 150) (i := 21) (N := 50) (t := 0) X (dk D_Ca_init 14 rfl) rfl (by decide) (fun U cA hh => va_nm_int hh) rfl WA_int (by decide) (by decide +kernel) (by decide) rfl (by decide) (zz_ok (by decide) (by decide) (by decide +kernel)) hz T5 O5 (fun h6 T6 O6 => ?_)
  refine v_pFC (b := 21) X (dk D_Ca_init 15 rfl) F_Ca_24 CK_Ca rfl rfl (Or.inr ⟨_, rfl⟩) hnm rfl T6 O6 (fun h7 T7 O7 E7 => ?_)
  refine v_aload_n X (dk D_Ca_init 16 rfl) rfl ?_
  refine v_bipush (v := 50) X (dk D_Ca_init 17 rfl) (by decide) ?_
  refine v_naC (bc := 2) (bs := 100) (i := 22) (N := 50) (t := 0) X (dk D_Ca_init 18 rfl) rfl (by decide) (fun U cA hh => va_nm_int hh) rfl WA_int (by decide) (by decide +kernel) (by decide) rfl (by decide) (zz_ok (by decide) (by decide) (by decide +kernel)) hz T7 O7 (fun h8 T8 O8 => ?_)
  refine v_pFC (b := 22) X (dk D_Ca_init 19 rfl) F_Ca_27 CK_Ca rfl rfl (Or.inr ⟨_, rfl⟩) hnm rfl T8 O8 (fun h9 T9 O9 E9 => ?_)
  refine v_aload_n X (dk D_Ca_init 20 rfl) rfl ?_
  refine v_bipush (v := 50) X (dk D_Ca_init 21 rfl) (by decide) ?_
  refine v_naC (bc := 1) (bs := 50) (i := 23) (N := 50) (t := 0) X (dk D_Ca_init 22 rfl) rfl (by decide) (fun U cA hh => va_nm_int hh) rfl WA_int (by decide) (by decide +kernel) (by decide) rfl (by decide) (zz_ok (by decide) (by decide) (by decide +kernel)) hz T9 O9 (fun h10 T10 O10 => ?_)
  refine v_pFC (b := 23) X (dk D_Ca_init 23 rfl) F_Ca_30 CK_Ca rfl rfl (Or.inr ⟨_, rfl⟩) hnm rfl T10 O10 (fun h11 T11 O11 E11 => ?_)
  refine v_aload_n X (dk D_Ca_init 24 rfl) rfl ?_
  refine v_bipush (v := 50) X (dk D_Ca_init 25 rfl) (by decide) ?_
  refine v_naC (bc := 0) (bs := 0) (i := 24) (N := 50) (t := 2) X (dk D_Ca_init 26 rfl) rfl (by decide) (fun U cA hh => va_nm_boolean hh) rfl WA_boolean (by decide) (by decide +kernel) (by decide) rfl (by decide) (zz_ok (by decide) (by decide) (by decide +kernel)) hz T11 O11 (fun h12 T12 O12 => ?_)
  refine v_pFC (b := 24) X (dk D_Ca_init 27 rfl) F_Ca_33 CK_Ca rfl rfl (Or.inr ⟨_, rfl⟩) hnm rfl T12 O12 (fun h13 T13 O13 E13 => ?_)
  exact v_vret X hlk hrt (dk D_Ca_init 28 rfl) ⟨rfl, T13.fin O13 (zi_ok (by decide) (by decide)) (zR_ok (by decide)) (f64 (by decide +kernel) (u64 (u64 (u64 (u64 (u64 (u64 (fun _ _ => rfl) (by decide)) (by decide)) (by decide)) (by decide)) (by decide)) (by decide)) (fR0_64 17))⟩
theorem in_ok (k : Nat) : va_up (fun _ => (0 : Int32)) 9 32768 k = iI0 7 k := by
  rw [iI0, if_neg (by decide), if_neg (fun z => absurd z.1 (by decide))]
  by_cases e : k = 9
  · rw [e, va_up_eq]; rfl
  · rw [va_up_ne' e, if_neg (fun z => e z.2)]
theorem inR_ok (k : Nat) : va_up (fun _ => (none : Option Nat)) 6 (some 14) k = iR0 7 k := by
  rw [iR0]
  by_cases e : k = 6
  · rw [e, va_up_eq]; rfl
  · rw [va_up_ne' e, if_neg (fun z => e z.2), if_neg (fun z => absurd z.1 (by decide)), if_neg (fun z => absurd z.1 (by decide)), if_neg (fun z => absurd z.1 (by decide))]
theorem exR_ok (k : Nat) : va_up (fun _ => (none : Option Nat)) 0 (some 998) k = iR0 997 k := by
  rw [iR0, if_neg (fun z => absurd z.1 (by decide)), if_neg (fun z => absurd z.1 (by decide)), if_neg (fun z => absurd z.1 (by decide))]
  by_cases e : k = 0
  · rw [e, va_up_eq]; rfl
  · rw [va_up_ne' e, if_neg (fun z => e z.2)]
theorem WB_In : Cond.methodLink "RescanMill$Input" 3 Lib.objectInit ∈ tbG := tb_in (i := 63) (by decide +kernel) (by decide +kernel)
theorem WL_In_9 : Cond.classLink "RescanMill$Input" 9 "RescanMill$Bytes" ∈ tbG := tb_in (i := 64) (by decide +kernel) (by decide +kernel)
set_option maxHeartbeats 4000000 in
set_option maxRecDepth 100000 in
theorem k_In_init (l : Launch) (q : ev_T)  {g : mu_T} (hg : gN g = 7 + 1) (hz0 : ∀ j, 7 ≤ j → zr g j) : Ctr l q M_In_init 2 [.ref 7] (9, 65556, g) (fun v w => v = none ∧ mkM g w.2.2 7 17) := by
  refine Ctr.mk (lb := [some (.ref 7)]) (by decide +kernel) (Nat.le_of_ble_eq_true rfl) rfl rfl ?_
  intro pp ee ss mm aa bb mt cd X hrt hlk hnm
  have hz : ∀ j, 7 < j → zr g j := fun j hj => hz0 j (by omega)
  obtain ⟨T0, O0⟩ := CT.start hg (hz0 7 (Nat.le_refl _))
  refine v_aload_n X (dk D_In_init 0 rfl) rfl ?_
  refine v_objInit X (dk D_In_init 1 rfl) WB_In W_obI W_obC (Nat.le_of_ble_eq_true rfl) (Nat.le_of_ble_eq_true rfl) (Nat.le_of_ble_eq_true rfl) ?_
  refine v_aload_n X (dk D_In_init 2 rfl) rfl ?_
  refine v_nwC (bc := 8) (bs := 65553) (i := 8) (ci := 1) X (dk D_In_init 3 rfl) rfl WL_In_9 WI_By WN_By in_By CK_By (by decide) rfl (by decide) hz T0 O0 (fun h1 T1 O1 N1 Z1 _ => ?_)
  refine v_dup X (dk D_In_init 4 rfl) rfl ?_
  refine v_iconst (v := 4) X (dk D_In_init 5 rfl) (by decide) ?_
  refine v_icC (bc := 7) (bs := 65549) (i := 8) (i2 := 10) (d := 1) (As := [.int (nI 4)]) (st := [.ref 8, .ref 7]) X (k_By_init l q (a := 8) (N := 4) N1 Z1 (BZ_of rfl rfl (by decide) (by decide) (by decide) (by decide) (by decide +kernel) (by decide) (by decide) (by decide +kernel))) (dk D_In_init 6 rfl) G_In_11 K_By_init rfl rfl I_By_init rfl rfl (Nat.le_of_ble_eq_true rfl) (Nat.le_of_ble_eq_true rfl) (Nat.le_of_ble_eq_true rfl) (by decide) (by decide) (by decide) T1 O1 (fun h2 T2 O2 _ => ?_)
  refine v_pFC (b := 8) X (dk D_In_init 7 rfl) F_In_14 CK_In rfl rfl (Or.inl ⟨_, rfl⟩) hnm rfl T2 O2 (fun h3 T3 O3 E3 => ?_)
  refine v_aload_n X (dk D_In_init 8 rfl) rfl ?_
  refine v_nwC (bc := 6) (bs := 65546) (i := 10) (ci := 1) X (dk D_In_init 9 rfl) rfl WL_In_9 WI_By WN_By in_By CK_By (by decide) rfl (by decide) hz T3 O3 (fun h4 T4 O4 N4 Z4 _ => ?_)
  refine v_dup X (dk D_In_init 10 rfl) rfl ?_
  refine v_iconst (v := 4) X (dk D_In_init 11 rfl) (by decide) ?_
  refine v_icC (bc := 5) (bs := 65542) (i := 10) (i2 := 12) (d := 1) (As := [.int (nI 4)]) (st := [.ref 10, .ref 7]) X (k_By_init l q (a := 10) (N := 4) N4 Z4 (BZ_of rfl rfl (by decide) (by decide) (by decide) (by decide) (by decide +kernel) (by decide) (by decide) (by decide +kernel))) (dk D_In_init 12 rfl) G_In_11 K_By_init rfl rfl I_By_init rfl rfl (Nat.le_of_ble_eq_true rfl) (Nat.le_of_ble_eq_true rfl) (Nat.le_of_ble_eq_true rfl) (by decide) (by decide) (by decide) T4 O4 (fun h5 T5 O5 _ => ?_)
  refine v_pFC (b := 10) X (dk D_In_init 13 rfl) F_In_20 CK_In rfl rfl (Or.inl ⟨_, rfl⟩) hnm rfl T5 O5 (fun h6 T6 O6 E6 => ?_)
  refine v_aload_n X (dk D_In_init 14 rfl) rfl ?_
  refine v_nwC (bc := 4) (bs := 65539) (i := 12) (ci := 1) X (dk D_In_init 15 rfl) rfl WL_In_9 WI_By WN_By in_By CK_By (by decide) rfl (by decide) hz T6 O6 (fun h7 T7 O7 N7 Z7 _ => ?_)
  refine v_dup X (dk D_In_init 16 rfl) rfl ?_
  refine v_ldc X (dk D_In_init 17 rfl) C_In_23 ?_
  refine v_icC (bc := 3) (bs := 32771) (i := 12) (i2 := 14) (d := 1) (As := [.int (nI 32768)]) (st := [.ref 12, .ref 7]) X (k_By_init l q (a := 12) (N := 32768) N7 Z7 (BZ_of rfl rfl (by decide) (by decide) (by decide) (by decide) (by decide +kernel) (by decide) (by decide) (by decide +kernel))) (dk D_In_init 18 rfl) G_In_11 K_By_init rfl rfl I_By_init rfl rfl (Nat.le_of_ble_eq_true rfl) (Nat.le_of_ble_eq_true rfl) (Nat.le_of_ble_eq_true rfl) (by decide) (by decide) (by decide) T7 O7 (fun h8 T8 O8 _ => ?_)
  refine v_pFC (b := 12) X (dk D_In_init 19 rfl) F_In_24 CK_In rfl rfl (Or.inl ⟨_, rfl⟩) hnm rfl T8 O8 (fun h9 T9 O9 E9 => ?_)
  refine v_aload_n X (dk D_In_init 20 rfl) rfl ?_
  refine v_nwC (bc := 2) (bs := 32768) (i := 14) (ci := 1) X (dk D_In_init 21 rfl) rfl WL_In_9 WI_By WN_By in_By CK_By (by decide) rfl (by decide) hz T9 O9 (fun h10 T10 O10 N10 Z10 _ => ?_)
  refine v_dup X (dk D_In_init 22 rfl) rfl ?_
  refine v_iconst (v := 0) X (dk D_In_init 23 rfl) (by decide) ?_
  refine v_icC (bc := 1) (bs := 32768) (i := 14) (i2 := 16) (d := 1) (As := [.int (nI 0)]) (st := [.ref 14, .ref 7]) X (k_By_init l q (a := 14) (N := 0) N10 Z10 (BZ_of rfl rfl (by decide) (by decide) (by decide) (by decide) (by decide +kernel) (by decide) (by decide) (by decide +kernel))) (dk D_In_init 24 rfl) G_In_11 K_By_init rfl rfl I_By_init rfl rfl (Nat.le_of_ble_eq_true rfl) (Nat.le_of_ble_eq_true rfl) (Nat.le_of_ble_eq_true rfl) (by decide) (by decide) (by decide) T10 O10 (fun h11 T11 O11 _ => ?_)
  refine v_pRC (b := 14) X (dk D_In_init 25 rfl) F_In_27 CK_In rfl rfl ⟨_, rfl⟩ T11 O11 (fun h12 T12 O12 => ?_)
  refine v_aload_n X (dk D_In_init 26 rfl) rfl ?_
  refine v_ldc X (dk D_In_init 27 rfl) C_In_23 ?_
  refine v_naC (bc := 0) (bs := 0) (i := 16) (N := 32768) (t := 1) X (dk D_In_init 28 rfl) rfl (by decide) (fun U cA hh => va_nm_byte hh) rfl WA_byte (by decide) (by decide +kernel) (by decide) rfl (by decide) (zz_ok (by decide) (by decide) (by decide +kernel)) hz T12 O12 (fun h13 T13 O13 => ?_)
  refine v_pFC (b := 16) X (dk D_In_init 29 rfl) F_In_30 CK_In rfl rfl (Or.inr ⟨_, rfl⟩) hnm rfl T13 O13 (fun h14 T14 O14 E14 => ?_)
  refine v_aload_n X (dk D_In_init 30 rfl) rfl ?_
  refine v_ldc X (dk D_In_init 31 rfl) C_In_23 ?_
  refine v_pIC X (dk D_In_init 32 rfl) F_In_34 CK_In rfl rfl rfl rfl T14 O14 (fun h15 T15 O15 => ?_)
  exact v_vret X hlk hrt (dk D_In_init 33 rfl) ⟨rfl, T15.fin O15 in_ok inR_ok (f64 (by decide +kernel) (u64 (u64 (u64 (u64 (fun _ _ => rfl) (by decide)) (by decide)) (by decide)) (by decide)) (fR0_64 7))⟩
theorem WB_Ex : Cond.methodLink "RescanMill$Expression" 3 Lib.objectInit ∈ tbG := tb_in (i := 285) (by decide +kernel) (by decide +kernel)
theorem WL_Ex_9 : Cond.classLink "RescanMill$Expression" 9 "RescanMill$Bytes" ∈ tbG := tb_in (i := 286) (by decide +kernel) (by decide +kernel)
theorem WL_Ex_24 : Cond.classLink "RescanMill$Expression" 24 "RescanMill$Operator" ∈ tbG := tb_in (i := 288) (by decide +kernel) (by decide +kernel)
theorem WO_Op : Cond.arrayOver (.object "RescanMill$Operator") ∈ nstT := by simp [nstT]
set_option maxHeartbeats 4000000 in
set_option maxRecDepth 100000 in
theorem k_Ex_init (l : Launch) (q : ev_T)  {g : mu_T} (hg : gN g = 997 + 1) (hz0 : ∀ j, 997 ≤ j → zr g j) : Ctr l q M_Ex_init 2 [.ref 997] (4, 686, g) (fun v w => v = none ∧ mkM g w.2.2 997 1002) := by
  refine Ctr.mk (lb := [some (.ref 997)]) (by decide +kernel) (Nat.le_of_ble_eq_true rfl) rfl rfl ?_
  intro pp ee ss mm aa bb mt cd X hrt hlk hnm
  have hz : ∀ j, 997 < j → zr g j := fun j hj => hz0 j (by omega)
  obtain ⟨T0, O0⟩ := CT.start hg (hz0 997 (Nat.le_refl _))
  refine v_aload_n X (dk D_Ex_init 0 rfl) rfl ?_
  refine v_objInit X (dk D_Ex_init 1 rfl) WB_Ex W_obI W_obC (Nat.le_of_ble_eq_true rfl) (Nat.le_of_ble_eq_true rfl) (Nat.le_of_ble_eq_true rfl) ?_
  refine v_aload_n X (dk D_Ex_init 2 rfl) rfl ?_
  refine v_nwC (bc := 3) (bs := 683) (i := 998) (ci := 1) X (dk D_Ex_init 3 rfl) rfl WL_Ex_9 WI_By WN_By in_By CK_By (by decide) rfl (by decide) hz T0 O0 (fun h1 T1 O1 N1 Z1 _ => ?_)
  refine v_dup X (dk D_Ex_init 4 rfl) rfl ?_
  refine v_iconst (v := 0) X (dk D_Ex_init 5 rfl) (by decide) ?_
  refine v_icC (bc := 2) (bs := 683) (i := 998) (i2 := 1000) (d := 1) (As := [.int (nI 0)]) (st := [.ref 998, .ref 997]) X (k_By_init l q (a := 998) (N := 0) N1 Z1 (BZ_of rfl rfl (by decide) (by decide) (by decide) (by decide) (by decide +kernel) (by decide) (by decide) (by decide +kernel))) (dk D_Ex_init 6 rfl) G_Ex_11 K_By_init rfl rfl I_By_init rfl rfl (Nat.le_of_ble_eq_true rfl) (Nat.le_of_ble_eq_true rfl) (Nat.le_of_ble_eq_true rfl) (by decide) (by decide) (by decide) T1 O1 (fun h2 T2 O2 _ => ?_)
  refine v_pRC (b := 998) X (dk D_Ex_init 7 rfl) F_Ex_14 CK_Ex rfl rfl ⟨_, rfl⟩ T2 O2 (fun h3 T3 O3 => ?_)
  refine v_aload_n X (dk D_Ex_init 8 rfl) rfl ?_
  refine v_sipush (v := 342) X (dk D_Ex_init 9 rfl) (by decide) ?_
  refine v_naC (bc := 1) (bs := 341) (i := 1000) (N := 342) (t := 0) X (dk D_Ex_init 10 rfl) rfl (by decide) (fun U cA hh => va_nm_int hh) rfl WA_int (by decide) (by decide +kernel) (by decide) rfl (by decide) (zz_ok (by decide) (by decide) (by decide +kernel)) hz T3 O3 (fun h4 T4 O4 => ?_)
  refine v_pFC (b := 1000) X (dk D_Ex_init 11 rfl) F_Ex_20 CK_Ex rfl rfl (Or.inr ⟨_, rfl⟩) hnm rfl T4 O4 (fun h5 T5 O5 E5 => ?_)
  refine v_aload_n X (dk D_Ex_init 12 rfl) rfl ?_
  refine v_sipush (v := 341) X (dk D_Ex_init 13 rfl) (by decide) ?_
  refine v_anC (bc := 0) (bs := 0) (i := 1001) (N := 341) (t := 5) X (dk D_Ex_init 14 rfl) rfl (by decide) WL_Ex_24 WO_Op (by decide) (by decide +kernel) (by decide) rfl (by decide) hz T5 O5 (fun h6 T6 O6 Z6 => ?_)
  replace T6 := T6.row Z6 (zz_ok (by decide) (by decide) (by decide +kernel))
  refine v_pFC (b := 1001) X (dk D_Ex_init 15 rfl) F_Ex_26 CK_Ex rfl rfl (Or.inr ⟨_, rfl⟩) hnm rfl T6 O6 (fun h7 T7 O7 E7 => ?_)
  exact v_vret X hlk hrt (dk D_Ex_init 16 rfl) ⟨rfl, T7.fin O7 (zi_ok (by decide) (by decide)) exR_ok (f64 (by decide +kernel) (u64 (u64 (fun _ _ => rfl) (by decide)) (by decide)) (fR0_64 997))⟩
theorem WB_Rf : Cond.methodLink "RescanMillModel" 1 Lib.objectInit ∈ tbG := tb_in (i := 918) (by decide +kernel) (by decide +kernel)
set_option maxHeartbeats 4000000 in
set_option maxRecDepth 100000 in
theorem k_Rf_init (l : Launch) (q : ev_T)  {g : mu_T} (hg : gN g = 1003 + 1) (hz0 : ∀ j, 1003 ≤ j → zr g j) : Ctr l q M_Rf_init 1 [.ref 1003] (18, 535068, g) (fun v w => v = none ∧ mkM g w.2.2 1003 1022) := by
  refine Ctr.mk (lb := [some (.ref 1003)]) (by decide +kernel) (Nat.le_of_ble_eq_true rfl) rfl rfl ?_
  intro pp ee ss mm aa bb mt cd X hrt hlk hnm
  have hz : ∀ j, 1003 < j → zr g j := fun j hj => hz0 j (by omega)
  obtain ⟨T0, O0⟩ := CT.start hg (hz0 1003 (Nat.le_refl _))
  refine v_aload_n X (dk D_Rf_init 0 rfl) rfl ?_
  refine v_objInit X (dk D_Rf_init 1 rfl) WB_Rf W_obI W_obC (Nat.le_of_ble_eq_true rfl) (Nat.le_of_ble_eq_true rfl) (Nat.le_of_ble_eq_true rfl) ?_
  refine v_aload_n X (dk D_Rf_init 2 rfl) rfl ?_
  refine v_ldc X (dk D_Rf_init 3 rfl) C_Rf_9 ?_
  refine v_naC (bc := 17) (bs := 502300) (i := 1004) (N := 32768) (t := 1) X (dk D_Rf_init 4 rfl) rfl (by decide) (fun U cA hh => va_nm_byte hh) rfl WA_byte (by decide) (by decide +kernel) (by decide) rfl (by decide) (zz_ok (by decide) (by decide) (by decide +kernel)) hz T0 O0 (fun h1 T1 O1 => ?_)
  refine v_pFC (b := 1004) X (dk D_Rf_init 5 rfl) F_Rf_10 CK_Rf rfl rfl (Or.inr ⟨_, rfl⟩) hnm rfl T1 O1 (fun h2 T2 O2 E2 => ?_)
  refine v_aload_n X (dk D_Rf_init 6 rfl) rfl ?_
  refine v_ldc X (dk D_Rf_init 7 rfl) C_Rf_9 ?_
  refine v_naC (bc := 16) (bs := 469532) (i := 1005) (N := 32768) (t := 1) X (dk D_Rf_init 8 rfl) rfl (by decide) (fun U cA hh => va_nm_byte hh) rfl WA_byte (by decide) (by decide +kernel) (by decide) rfl (by decide) (zz_ok (by decide) (by decide) (by decide +kernel)) hz T2 O2 (fun h3 T3 O3 => ?_)
  refine v_pFC (b := 1005) X (dk D_Rf_init 9 rfl) F_Rf_14 CK_Rf rfl rfl (Or.inr ⟨_, rfl⟩) hnm rfl T3 O3 (fun h4 T4 O4 E4 => ?_)
  refine v_aload_n X (dk D_Rf_init 10 rfl) rfl ?_
  refine v_ldc X (dk D_Rf_init 11 rfl) C_Rf_9 ?_
  refine v_naC (bc := 15) (bs := 436764) (i := 1006) (N := 32768) (t := 1) X (dk D_Rf_init 12 rfl) rfl (by decide) (fun U cA hh => va_nm_byte hh) rfl WA_byte (by decide) (by decide +kernel) (by decide) rfl (by decide) (zz_ok (by decide) (by decide) (by decide +kernel)) hz T4 O4 (fun h5 T5 O5 => ?_)
  refine v_pFC (b := 1006) X (dk D_Rf_init 13 rfl) F_Rf_17 CK_Rf rfl rfl (Or.inr ⟨_, rfl⟩) hnm rfl T5 O5 (fun h6 T6 O6 E6 => ?_)
  refine v_aload_n X (dk D_Rf_init 14 rfl) rfl ?_
  refine v_iconst (v := 4) X (dk D_Rf_init 15 rfl) (by decide) ?_
  refine v_naC (bc := 14) (bs := 436760) (i := 1007) (N := 4) (t := 0) X (dk D_Rf_init 16 rfl) rfl (by decide) (fun U cA hh => va_nm_int hh) rfl WA_int (by decide) (by decide +kernel) (by decide) rfl (by decide) (zz_ok (by decide) (by decide) (by decide +kernel)) hz T6 O6 (fun h7 T7 O7 => ?_)
  refine v_pFC (b := 1007) X (dk D_Rf_init 17 rfl) F_Rf_20 CK_Rf rfl rfl (Or.inr ⟨_, rfl⟩) hnm rfl T7 O7 (fun h8 T8 O8 E8 => ?_)
  refine v_aload_n X (dk D_Rf_init 18 rfl) rfl ?_
  refine v_iconst (v := 4) X (dk D_Rf_init 19 rfl) (by decide) ?_
  refine v_naC (bc := 13) (bs := 436756) (i := 1008) (N := 4) (t := 0) X (dk D_Rf_init 20 rfl) rfl (by decide) (fun U cA hh => va_nm_int hh) rfl WA_int (by decide) (by decide +kernel) (by decide) rfl (by decide) (zz_ok (by decide) (by decide) (by decide +kernel)) hz T8 O8 (fun h9 T9 O9 => ?_)
  refine v_pFC (b := 1008) X (dk D_Rf_init 21 rfl) F_Rf_24 CK_Rf rfl rfl (Or.inr ⟨_, rfl⟩) hnm rfl T9 O9 (fun h10 T10 O10 E10 => ?_)
  refine v_aload_n X (dk D_Rf_init 22 rfl) rfl ?_
  refine v_ldc X (dk D_Rf_init 23 rfl) C_Rf_9 ?_
  refine v_naC (bc := 12) (bs := 403988) (i := 1009) (N := 32768) (t := 1) X (dk D_Rf_init 24 rfl) rfl (by decide) (fun U cA hh => va_nm_byte hh) rfl WA_byte (by decide) (by decide +kernel) (by decide) rfl (by decide) (zz_ok (by decide) (by decide) (by decide +kernel)) hz T10 O10 (fun h11 T11 O11 => ?_)
  refine v_pFC (b := 1009) X (dk D_Rf_init 25 rfl) F_Rf_27 CK_Rf rfl rfl (Or.inr ⟨_, rfl⟩) hnm rfl T11 O11 (fun h12 T12 O12 E12 => ?_)
  refine v_aload_n X (dk D_Rf_init 26 rfl) rfl ?_
  refine v_ldc X (dk D_Rf_init 27 rfl) C_Rf_30 ?_
  refine v_naC (bc := 11) (bs := 371219) (i := 1010) (N := 32769) (t := 1) X (dk D_Rf_init 28 rfl) rfl (by decide) (fun U cA hh => va_nm_byte hh) rfl WA_byte (by decide) (by decide +kernel) (by decide) rfl (by decide) (zz_ok (by decide) (by decide) (by decide +kernel)) hz T12 O12 (fun h13 T13 O13 => ?_)
  refine v_pFC (b := 1010) X (dk D_Rf_init 29 rfl) F_Rf_31 CK_Rf rfl rfl (Or.inr ⟨_, rfl⟩) hnm rfl T13 O13 (fun h14 T14 O14 E14 => ?_)
  refine v_aload_n X (dk D_Rf_init 30 rfl) rfl ?_
  refine v_sipush (v := 340) X (dk D_Rf_init 31 rfl) (by decide) ?_
  refine v_naC (bc := 10) (bs := 370879) (i := 1011) (N := 340) (t := 0) X (dk D_Rf_init 32 rfl) rfl (by decide) (fun U cA hh => va_nm_int hh) rfl WA_int (by decide) (by decide +kernel) (by decide) rfl (by decide) (zz_ok (by decide) (by decide) (by decide +kernel)) hz T14 O14 (fun h15 T15 O15 => ?_)
  refine v_pFC (b := 1011) X (dk D_Rf_init 33 rfl) F_Rf_34 CK_Rf rfl rfl (Or.inr ⟨_, rfl⟩) hnm rfl T15 O15 (fun h16 T16 O16 E16 => ?_)
  refine v_aload_n X (dk D_Rf_init 34 rfl) rfl ?_
  refine v_sipush (v := 340) X (dk D_Rf_init 35 rfl) (by decide) ?_
  refine v_naC (bc := 9) (bs := 370539) (i := 1012) (N := 340) (t := 0) X (dk D_Rf_init 36 rfl) rfl (by decide) (fun U cA hh => va_nm_int hh) rfl WA_int (by decide) (by decide +kernel) (by decide) rfl (by decide) (zz_ok (by decide) (by decide) (by decide +kernel)) hz T16 O16 (fun h17 T17 O17 => ?_)
  refine v_pFC (b := 1012) X (dk D_Rf_init 37 rfl) F_Rf_37 CK_Rf rfl rfl (Or.inr ⟨_, rfl⟩) hnm rfl T17 O17 (fun h18 T18 O18 E18 => ?_)
  refine v_aload_n X (dk D_Rf_init 38 rfl) rfl ?_
  refine v_sipush (v := 340) X (dk D_Rf_init 39 rfl) (by decide) ?_
  refine v_naC (bc := 8) (bs := 370199) (i := 1013) (N := 340) (t := 0) X (dk D_Rf_init 40 rfl) rfl (by decide) (fun U cA hh => va_nm_int hh) rfl WA_int (by decide) (by decide +kernel) (by decide) rfl (by decide) (zz_ok (by decide) (by decide) (by decide +kernel)) hz T18 O18 (fun h19 T19 O19 => ?_)
  refine v_pFC (b := 1013) X (dk D_Rf_init 41 rfl) F_Rf_40 CK_Rf rfl rfl (Or.inr ⟨_, rfl⟩) hnm rfl T19 O19 (fun h20 T20 O20 E20 => ?_)
  refine v_aload_n X (dk D_Rf_init 42 rfl) rfl ?_
  refine v_sipush (v := 340) X (dk D_Rf_init 43 rfl) (by decide) ?_
  refine v_naC (bc := 7) (bs := 369859) (i := 1014) (N := 340) (t := 0) X (dk D_Rf_init 44 rfl) rfl (by decide) (fun U cA hh => va_nm_int hh) rfl WA_int (by decide) (by decide +kernel) (by decide) rfl (by decide) (zz_ok (by decide) (by decide) (by decide +kernel)) hz T20 O20 (fun h21 T21 O21 => ?_)
  refine v_pFC (b := 1014) X (dk D_Rf_init 45 rfl) F_Rf_43 CK_Rf rfl rfl (Or.inr ⟨_, rfl⟩) hnm rfl T21 O21 (fun h22 T22 O22 E22 => ?_)
  refine v_aload_n X (dk D_Rf_init 46 rfl) rfl ?_
  refine v_sipush (v := 16684) X (dk D_Rf_init 47 rfl) (by decide) ?_
  refine v_naC (bc := 6) (bs := 353175) (i := 1015) (N := 16684) (t := 1) X (dk D_Rf_init 48 rfl) rfl (by decide) (fun U cA hh => va_nm_byte hh) rfl WA_byte (by decide) (by decide +kernel) (by decide) rfl (by decide) (zz_ok (by decide) (by decide) (by decide +kernel)) hz T22 O22 (fun h23 T23 O23 => ?_)
  refine v_pFC (b := 1015) X (dk D_Rf_init 49 rfl) F_Rf_46 CK_Rf rfl rfl (Or.inr ⟨_, rfl⟩) hnm rfl T23 O23 (fun h24 T24 O24 E24 => ?_)
  refine v_aload_n X (dk D_Rf_init 50 rfl) rfl ?_
  refine v_ldc X (dk D_Rf_init 51 rfl) C_Rf_49 ?_
  refine v_naC (bc := 5) (bs := 25495) (i := 1016) (N := 327680) (t := 1) X (dk D_Rf_init 52 rfl) rfl (by decide) (fun U cA hh => va_nm_byte hh) rfl WA_byte (by decide) (by decide +kernel) (by decide) rfl (by decide) (zz_ok (by decide) (by decide) (by decide +kernel)) hz T24 O24 (fun h25 T25 O25 => ?_)
  refine v_pFC (b := 1016) X (dk D_Rf_init 53 rfl) F_Rf_50 CK_Rf rfl rfl (Or.inr ⟨_, rfl⟩) hnm rfl T25 O25 (fun h26 T26 O26 E26 => ?_)
  refine v_aload_n X (dk D_Rf_init 54 rfl) rfl ?_
  refine v_bipush (v := 10) X (dk D_Rf_init 55 rfl) (by decide) ?_
  refine v_naC (bc := 4) (bs := 25485) (i := 1017) (N := 10) (t := 0) X (dk D_Rf_init 56 rfl) rfl (by decide) (fun U cA hh => va_nm_int hh) rfl WA_int (by decide) (by decide +kernel) (by decide) rfl (by decide) (zz_ok (by decide) (by decide) (by decide +kernel)) hz T26 O26 (fun h27 T27 O27 => ?_)
  refine v_pFC (b := 1017) X (dk D_Rf_init 57 rfl) F_Rf_53 CK_Rf rfl rfl (Or.inr ⟨_, rfl⟩) hnm rfl T27 O27 (fun h28 T28 O28 E28 => ?_)
  refine v_aload_n X (dk D_Rf_init 58 rfl) rfl ?_
  refine v_sipush (v := 16385) X (dk D_Rf_init 59 rfl) (by decide) ?_
  refine v_naC (bc := 3) (bs := 9100) (i := 1018) (N := 16385) (t := 1) X (dk D_Rf_init 60 rfl) rfl (by decide) (fun U cA hh => va_nm_byte hh) rfl WA_byte (by decide) (by decide +kernel) (by decide) rfl (by decide) (zz_ok (by decide) (by decide) (by decide +kernel)) hz T28 O28 (fun h29 T29 O29 => ?_)
  refine v_pFC (b := 1018) X (dk D_Rf_init 61 rfl) F_Rf_56 CK_Rf rfl rfl (Or.inr ⟨_, rfl⟩) hnm rfl T29 O29 (fun h30 T30 O30 E30 => ?_)
  refine v_aload_n X (dk D_Rf_init 62 rfl) rfl ?_
  refine v_sipush (v := 8300) X (dk D_Rf_init 63 rfl) (by decide) ?_
  refine v_naC (bc := 2) (bs := 800) (i := 1019) (N := 8300) (t := 0) X (dk D_Rf_init 64 rfl) rfl (by decide) (fun U cA hh => va_nm_int hh) rfl WA_int (by decide) (by decide +kernel) (by decide) rfl (by decide) (zz_ok (by decide) (by decide) (by decide +kernel)) hz T30 O30 (fun h31 T31 O31 => ?_)
  refine v_pFC (b := 1019) X (dk D_Rf_init 65 rfl) F_Rf_59 CK_Rf rfl rfl (Or.inr ⟨_, rfl⟩) hnm rfl T31 O31 (fun h32 T32 O32 E32 => ?_)
  refine v_aload_n X (dk D_Rf_init 66 rfl) rfl ?_
  refine v_sipush (v := 400) X (dk D_Rf_init 67 rfl) (by decide) ?_
  refine v_naC (bc := 1) (bs := 400) (i := 1020) (N := 400) (t := 0) X (dk D_Rf_init 68 rfl) rfl (by decide) (fun U cA hh => va_nm_int hh) rfl WA_int (by decide) (by decide +kernel) (by decide) rfl (by decide) (zz_ok (by decide) (by decide) (by decide +kernel)) hz T32 O32 (fun h33 T33 O33 => ?_)
  refine v_pFC (b := 1020) X (dk D_Rf_init 69 rfl) F_Rf_62 CK_Rf rfl rfl (Or.inr ⟨_, rfl⟩) hnm rfl T33 O33 (fun h34 T34 O34 E34 => ?_)
  refine v_aload_n X (dk D_Rf_init 70 rfl) rfl ?_
  refine v_sipush (v := 400) X (dk D_Rf_init 71 rfl) (by decide) ?_
  refine v_naC (bc := 0) (bs := 0) (i := 1021) (N := 400) (t := 0) X (dk D_Rf_init 72 rfl) rfl (by decide) (fun U cA hh => va_nm_int hh) rfl WA_int (by decide) (by decide +kernel) (by decide) rfl (by decide) (zz_ok (by decide) (by decide) (by decide +kernel)) hz T34 O34 (fun h35 T35 O35 => ?_)
  refine v_pFC (b := 1021) X (dk D_Rf_init 73 rfl) F_Rf_65 CK_Rf rfl rfl (Or.inr ⟨_, rfl⟩) hnm rfl T35 O35 (fun h36 T36 O36 E36 => ?_)
  exact v_vret X hlk hrt (dk D_Rf_init 74 rfl) ⟨rfl, T36.fin O36 (zi_ok (by decide) (by decide)) (zR_ok (by decide)) (f64 (by decide +kernel) (u64 (u64 (u64 (u64 (u64 (u64 (u64 (u64 (u64 (u64 (u64 (u64 (u64 (u64 (u64 (u64 (u64 (u64 (fun _ _ => rfl) (by decide)) (by decide)) (by decide)) (by decide)) (by decide)) (by decide)) (by decide)) (by decide)) (by decide)) (by decide)) (by decide)) (by decide)) (by decide)) (by decide)) (by decide)) (by decide)) (by decide)) (by decide)) (fR0_64 1003))⟩
