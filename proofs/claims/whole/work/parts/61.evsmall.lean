/-! calls of what is inherited; the small steps of expressions -/
section VU
variable {p : Program} {l : Launch} {e : Env} {R : Room} {s : State} {m : MethodId} {args : Array Value} {below : List Frame} {meth : Method} {c : Code} {nL : Nat} {q : ev_T} {Qf : State → Prop} {pc : Nat} {la : List (Option Value)} {st : List Value} {u : mm_T} {cc : ByteArray} {own : String}
/-- a call of an inherited method on a constant object -/
theorem v_invVU (X : Cx p s m args c cc nL own q) {idx n b d bc bs : Nat} {C : String} {x : MethodName} {M : mt_T} {As st0 : List Value} {Q : Option Value → mm_T → Prop} (hM : Ctr l q M d (.ref b :: As) (bc, bs, u.2.2) Q) (hd : decode cc pc = .ok (.invokevirtual idx, 3)) (hL : Cond.methodLink own idx x ∈ tbG) (hsm : Cond.sameMethod x.cls M.1.cls x.name x.desc ∈ tbG) (hse : Cond.selects C x M.1 ∈ tbG) (hI : Cond.instanceMethod M.1 ∈ tbG) (hyx : M.1 = ⟨M.1.cls, x.name, x.desc⟩) (hK : MK M n) (hO : va_O C (ev_ad q b) (fun a => q.1 ≤ a) s s.heap) (hst : st0 = As.reverse ++ .ref b :: st) (hn : As.length = n) (hcat : (st.map fun v => v.category).sum ≤ 8) (hRf : d + 1 ≤ R.frames) (hRl : 48 * (d + 1) ≤ R.locals) (hb1 : bc ≤ u.1) (hb2 : bs ≤ u.2.1)
    (hd3 : M.1.cls ≠ "java/lang/invoke/MethodHandle" ∧ M.1.cls ≠ "java/lang/invoke/VarHandle" ∧ (parseMethodDescriptor x.desc).map (fun d => d.parameters.length) = some n)
    (kk : ∀ v w, Q v w → Vv p l e R s m args below meth c nL q Qf (pc + 3) la (v.toList ++ st) (u.1 - bc, u.2.1 - bs, w.2.2)) : Vv p l e R s m args below meth c nL q Qf pc la st0 u := by
  intro ls H locs cells slots h1 h2 h3 h4 h5
  obtain ⟨k1, k2, k3, k4, k5, k6, k7⟩ := hK
  have hrecv : ∃ cell : Cell, H[ev_ad q b]? = some cell ∧ cell.vm.isStatics = false ∧ s.vm.findClass C = some cell.cls := by
    obtain ⟨cell, y1, y2, y3, -⟩ := hO.kept h3.2.1
    exact ⟨cell, y1, y2, y3⟩
  have hms : st0.map (ev_v q) = (As.map (ev_v q)).reverse ++ .ref (ev_ad q b) :: st.map (ev_v q) := by
    rw [hst, List.map_append, List.map_reverse, List.map_cons]
    rfl
  have hpre := v_pre X h2 h3 bc bs (.ref b :: As)
  refine v_back (g := F0 m pc ls (st0.map (ev_v q))) rfl (va_runU (As := As.map (ev_v q)) (C := C) (owner := M.1.cls) (nL := nL) ⟨X.1, X.2.1, X.2.2.1, X.2.2.2.1, X.2.2.2.2.1⟩ hM (va_cwU (x := x) n X.2.2.2.2.1 (fun w hw => ?_) rfl rfl rfl hyx hd3 ⟨hRf, by show 8 + (M.2.2.1 + 11) + 48 * d ≤ _; omega⟩) ⟨Bw_blind _ _ _, hrecv, hpre⟩ rfl (by rw [List.length_map]; exact hn) h1.1 hms (lv_room (by rw [cat_map]; exact hcat)) hd ⟨by show cells + bc ≤ _; omega, by show slots + bs ≤ _; omega⟩) h1 h3 h4 h5 hb1 hb2 kk
  rcases List.mem_append.mp hw with hw | hw
  · simp only [List.mem_cons, List.not_mem_nil, or_false] at hw
    rcases hw with rfl | rfl | rfl | rfl | rfl
    · exact ⟨hL, tbG_good _ hL⟩
    · exact ⟨hsm, tbG_good _ hsm⟩
    · exact ⟨hse, tbG_good _ hse⟩
    · exact ⟨hI, tbG_good _ hI⟩
    · exact ⟨k2, tbG_good _ k2⟩
  · exact tbG_in k1 w hw
end VU
theorem same_O : Cond.sameMethod "RescanMill$Operator" "java/lang/Enum" "ordinal" "()I" ∈ tbG := tb_in (i := 773) (by decide +kernel) (by decide +kernel)
theorem sel_O : Cond.selects "RescanMill$Operator" ⟨"RescanMill$Operator", "ordinal", "()I"⟩ ⟨"java/lang/Enum", "ordinal", "()I"⟩ ∈ tbG := tb_in (i := 774) (by decide +kernel) (by decide +kernel)
theorem same_B : Cond.sameMethod "RescanMill$BuiltIn" "java/lang/Enum" "ordinal" "()I" ∈ tbG := tb_in (i := 694) (by decide +kernel) (by decide +kernel)
theorem sel_B : Cond.selects "RescanMill$BuiltIn" ⟨"RescanMill$BuiltIn", "ordinal", "()I"⟩ ⟨"java/lang/Enum", "ordinal", "()I"⟩ ∈ tbG := tb_in (i := 696) (by decide +kernel) (by decide +kernel)
set_option maxHeartbeats 4000000 in
set_option maxRecDepth 100000 in
theorem c_ordO (l : Launch) (q : ev_T) {i : Nat} {g : mu_T} (hi : i < 23) : Ctr l q M_En_ordinal 0 [.ref (1048600 + i)] (0, 0, g) (fun v w => v = some (.int (nI i)) ∧ w.2.2 = g) := by

  refine Ctr.mk (lb := [some (.ref (1048600 + i))]) (by decide +kernel) (Nat.le_of_ble_eq_true rfl) rfl rfl ?_
  intro pp ee ss mm aa bb mt cd X hrt hlk hnm
  refine v_aload_n X (dk D_En_ordinal 0 rfl) rfl ?_
  refine v_sget (v := .int (nI i)) X (dk D_En_ordinal 1 rfl) Z_En_7 (X.sf.2.1 i hi).2.1 ?_
  exact v_iret X hlk hrt (dk D_En_ordinal 2 rfl) ⟨rfl, rfl⟩
set_option maxHeartbeats 4000000 in
set_option maxRecDepth 100000 in
theorem c_ordB (l : Launch) (q : ev_T) {i : Nat} {g : mu_T} (hi : i < 17) : Ctr l q M_En_ordinal 0 [.ref (1048576 + i)] (0, 0, g) (fun v w => v = some (.int (nI i)) ∧ w.2.2 = g) := by

  refine Ctr.mk (lb := [some (.ref (1048576 + i))]) (by decide +kernel) (Nat.le_of_ble_eq_true rfl) rfl rfl ?_
  intro pp ee ss mm aa bb mt cd X hrt hlk hnm
  refine v_aload_n X (dk D_En_ordinal 0 rfl) rfl ?_
  refine v_sget (v := .int (nI i)) X (dk D_En_ordinal 1 rfl) Z_En_7 (X.sf.1 i hi).2.1 ?_
  exact v_iret X hlk hrt (dk D_En_ordinal 2 rfl) ⟨rfl, rfl⟩
theorem bt_iff : ∀ i, i < 23 → ((¬ opS i < 1 ∧ ¬ 11 ≤ opS i) ↔ i < 18) := by decide +kernel
set_option maxHeartbeats 4000000 in
set_option maxRecDepth 100000 in
theorem c_isBetween (l : Launch) (q : ev_T) {i : Nat} {g : mu_T} (hi : i < 23) : Ctr l q M_Op_isBetween 0 [.ref (1048600 + i)] (0, 0, g) (fun v w => v = some (.int (if i < 18 then 1 else 0)) ∧ w.2.2 = g) := by

  refine Ctr.mk (lb := [some (.ref (1048600 + i))]) (by decide +kernel) (Nat.le_of_ble_eq_true rfl) rfl rfl ?_
  intro pp ee ss mm aa bb mt cd X hrt hlk hnm
  refine v_aload_n X (dk D_Op_isBetween 0 rfl) rfl ?_
  refine v_sget (v := .int (opS i)) X (dk D_Op_isBetween 1 rfl) Z_Op_96 (X.sf.2.1 i hi).2.2.1 ?_
  refine v_iconst (v := 1) X (dk D_Op_isBetween 2 rfl) (by decide) ?_
  refine v_icmp_lt (tgt := 21) X (dk D_Op_isBetween 3 rfl) (by decide) (fun c5 => ?_) (fun c5 => ?_)
  · refine v_iconst (v := 0) X (dk D_Op_isBetween 10 rfl) (by decide) ?_
    exact v_zret X hlk hrt rfl (dk D_Op_isBetween 11 rfl) ⟨congrArg (fun z => some (Value.int z)) (by first | rw [if_pos ((bt_iff i hi).mp ⟨c5, c14⟩)] | rw [if_neg (fun z => ((bt_iff i hi).mpr z).2 c14)] | rw [if_neg (fun z => ((bt_iff i hi).mpr z).1 c5)]), rfl⟩
  · refine v_aload_n X (dk D_Op_isBetween 4 rfl) rfl ?_
    refine v_sget (v := .int (opS i)) X (dk D_Op_isBetween 5 rfl) Z_Op_96 (X.sf.2.1 i hi).2.2.1 ?_
    refine v_bipush (v := 11) X (dk D_Op_isBetween 6 rfl) (by decide) ?_
    refine v_icmp_ge (tgt := 21) X (dk D_Op_isBetween 7 rfl) (by decide) (fun c14 => ?_) (fun c14 => ?_)
    · refine v_iconst (v := 0) X (dk D_Op_isBetween 10 rfl) (by decide) ?_
      exact v_zret X hlk hrt rfl (dk D_Op_isBetween 11 rfl) ⟨congrArg (fun z => some (Value.int z)) (by first | rw [if_pos ((bt_iff i hi).mp ⟨c5, c14⟩)] | rw [if_neg (fun z => ((bt_iff i hi).mpr z).2 c14)] | rw [if_neg (fun z => ((bt_iff i hi).mpr z).1 c5)]), rfl⟩
    · refine v_iconst (v := 1) X (dk D_Op_isBetween 8 rfl) (by decide) ?_
      refine v_goto (tgt := 22) X (dk D_Op_isBetween 9 rfl) (by decide) ?_
      exact v_zret X hlk hrt rfl (dk D_Op_isBetween 11 rfl) ⟨congrArg (fun z => some (Value.int z)) (by first | rw [if_pos ((bt_iff i hi).mp ⟨c5, c14⟩)] | rw [if_neg (fun z => ((bt_iff i hi).mpr z).2 c14)] | rw [if_neg (fun z => ((bt_iff i hi).mpr z).1 c5)]), rfl⟩
set_option maxHeartbeats 4000000 in
set_option maxRecDepth 100000 in
theorem k_isSpace (l : Launch) (q : ev_T) {b : Int32} {g : mu_T}  : Ctr l q M_Mi_isSpace 0 [.int b] (0, 0, g) (fun v w => v = some (.int (if isSpc b = true then 1 else 0)) ∧ w.2.2 = g) := by

  refine Ctr.mk (lb := [some (.int b)]) (by decide +kernel) (Nat.le_of_ble_eq_true rfl) rfl rfl ?_
  intro pp ee ss mm aa bb mt cd X hrt hlk hnm
  refine v_iload_n X (dk D_Mi_isSpace 0 rfl) rfl ?_
  refine v_bipush (v := 32) X (dk D_Mi_isSpace 1 rfl) (by decide) ?_
  refine v_icmp_eq (tgt := 18) X (dk D_Mi_isSpace 2 rfl) (by decide) (fun c3 => ?_) (fun c3 => ?_)
  · refine v_iconst (v := 1) X (dk D_Mi_isSpace 9 rfl) (by decide) ?_
    refine v_goto (tgt := 23) X (dk D_Mi_isSpace 10 rfl) (by decide) ?_
    exact v_zret X hlk hrt rfl (dk D_Mi_isSpace 12 rfl) ⟨congrArg (fun z => some (Value.int z)) (by first | rw [if_pos (show isSpc b = true from decide_eq_true (Or.inl c3))] | rw [if_pos (show isSpc b = true from decide_eq_true (Or.inr ⟨c9, c15⟩))] | rw [if_neg (show ¬ isSpc b = true from fun z => (of_decide_eq_true z).elim c3 (fun y => y.2 c15))] | rw [if_neg (show ¬ isSpc b = true from fun z => (of_decide_eq_true z).elim c3 (fun y => y.1 c9))]), rfl⟩
  · refine v_iload_n X (dk D_Mi_isSpace 3 rfl) rfl ?_
    refine v_bipush (v := 9) X (dk D_Mi_isSpace 4 rfl) (by decide) ?_
    refine v_icmp_lt (tgt := 22) X (dk D_Mi_isSpace 5 rfl) (by decide) (fun c9 => ?_) (fun c9 => ?_)
    · refine v_iconst (v := 0) X (dk D_Mi_isSpace 11 rfl) (by decide) ?_
      exact v_zret X hlk hrt rfl (dk D_Mi_isSpace 12 rfl) ⟨congrArg (fun z => some (Value.int z)) (by first | rw [if_pos (show isSpc b = true from decide_eq_true (Or.inl c3))] | rw [if_pos (show isSpc b = true from decide_eq_true (Or.inr ⟨c9, c15⟩))] | rw [if_neg (show ¬ isSpc b = true from fun z => (of_decide_eq_true z).elim c3 (fun y => y.2 c15))] | rw [if_neg (show ¬ isSpc b = true from fun z => (of_decide_eq_true z).elim c3 (fun y => y.1 c9))]), rfl⟩
    · refine v_iload_n X (dk D_Mi_isSpace 6 rfl) rfl ?_
      refine v_bipush (v := 13) X (dk D_Mi_isSpace 7 rfl) (by decide) ?_
      refine v_icmp_gt (tgt := 22) X (dk D_Mi_isSpace 8 rfl) (by decide) (fun c15 => ?_) (fun c15 => ?_)
      · refine v_iconst (v := 0) X (dk D_Mi_isSpace 11 rfl) (by decide) ?_
        exact v_zret X hlk hrt rfl (dk D_Mi_isSpace 12 rfl) ⟨congrArg (fun z => some (Value.int z)) (by first | rw [if_pos (show isSpc b = true from decide_eq_true (Or.inl c3))] | rw [if_pos (show isSpc b = true from decide_eq_true (Or.inr ⟨c9, c15⟩))] | rw [if_neg (show ¬ isSpc b = true from fun z => (of_decide_eq_true z).elim c3 (fun y => y.2 c15))] | rw [if_neg (show ¬ isSpc b = true from fun z => (of_decide_eq_true z).elim c3 (fun y => y.1 c9))]), rfl⟩
      · refine v_iconst (v := 1) X (dk D_Mi_isSpace 9 rfl) (by decide) ?_
        refine v_goto (tgt := 23) X (dk D_Mi_isSpace 10 rfl) (by decide) ?_
        exact v_zret X hlk hrt rfl (dk D_Mi_isSpace 12 rfl) ⟨congrArg (fun z => some (Value.int z)) (by first | rw [if_pos (show isSpc b = true from decide_eq_true (Or.inl c3))] | rw [if_pos (show isSpc b = true from decide_eq_true (Or.inr ⟨c9, c15⟩))] | rw [if_neg (show ¬ isSpc b = true from fun z => (of_decide_eq_true z).elim c3 (fun y => y.2 c15))] | rw [if_neg (show ¬ isSpc b = true from fun z => (of_decide_eq_true z).elim c3 (fun y => y.1 c9))]), rfl⟩
set_option maxHeartbeats 4000000 in
set_option maxRecDepth 100000 in
theorem c_ofOne (l : Launch) (q : ev_T) {o : Nat} {x : Int32} {g : mu_T} (h1 : 18 ≤ o) (h2 : o < 22) : Ctr l q M_Ex_ofOne 1 [.ref (1048600 + o), .int x] (0, 0, g) (fun v w => v = some (.int (ofO o x)) ∧ w.2.2 = g) := by

  refine Ctr.mk (lb := [some (.ref (1048600 + o)), some (.int x)]) (by decide +kernel) (Nat.le_of_ble_eq_true rfl) rfl rfl ?_
  intro pp ee ss mm aa bb mt cd X hrt hlk hnm
  have hc : o = 18 ∨ o = 19 ∨ o = 20 ∨ o = 21 := by omega
  rcases hc with rfl | rfl | rfl | rfl
  · refine v_gets (v := .ref 1048753) X (dk D_Ex_ofOne 0 rfl) (Or.inl Z_Ex_149) X.sf.2.2.2.2.2.2.1.1 ?_
    refine v_aload_n X (dk D_Ex_ofOne 1 rfl) rfl ?_
    refine v_invVU (C := "RescanMill$Operator") (x := ⟨"RescanMill$Operator", "ordinal", "()I"⟩) (M := M_En_ordinal) (b := 1048600 + 18) (As := []) (st := [.ref 1048753]) X (c_ordO l q (i := 18) (by decide)) (dk D_Ex_ofOne 2 rfl) G_Ex_154 same_O sel_O I_En_ordinal rfl K_En_ordinal (X.sf.2.1 18 (by decide)).1 rfl rfl (Nat.le_of_ble_eq_true rfl) (Nat.le_of_ble_eq_true rfl) (Nat.le_of_ble_eq_true rfl) (Nat.le_of_ble_eq_true rfl) (Nat.le_of_ble_eq_true rfl) ⟨by decide, by decide, by decide +kernel⟩ ?_
    rintro v w ⟨rfl, hw⟩
    rw [hw]
    show Vv _ _ _ _ _ _ _ _ _ _ _ _ _ _ _ [.int (nI 18), .ref 1048753] (0, 0, g)
    refine v_siald (v := .int 0) X (dk D_Ex_ofOne 3 rfl) X.sf.2.2.2.2.2.2.1.2 (vp_in_nI (show 18 < 23 by decide) (by decide)) (by rw [nI_clamp (by decide)]; rfl) ?_
    refine v_tableOut (tgt := 53) X (dk D_Ex_ofOne 4 rfl) (by decide) (by decide) ?_
    refine v_iload_n X (dk D_Ex_ofOne 18 rfl) rfl ?_
    exact v_iret X hlk hrt (dk D_Ex_ofOne 19 rfl) ⟨congrArg (fun z => some (Value.int z)) (by first | rfl | simp [ofO, c44]), rfl⟩
  · refine v_gets (v := .ref 1048753) X (dk D_Ex_ofOne 0 rfl) (Or.inl Z_Ex_149) X.sf.2.2.2.2.2.2.1.1 ?_
    refine v_aload_n X (dk D_Ex_ofOne 1 rfl) rfl ?_
    refine v_invVU (C := "RescanMill$Operator") (x := ⟨"RescanMill$Operator", "ordinal", "()I"⟩) (M := M_En_ordinal) (b := 1048600 + 19) (As := []) (st := [.ref 1048753]) X (c_ordO l q (i := 19) (by decide)) (dk D_Ex_ofOne 2 rfl) G_Ex_154 same_O sel_O I_En_ordinal rfl K_En_ordinal (X.sf.2.1 19 (by decide)).1 rfl rfl (Nat.le_of_ble_eq_true rfl) (Nat.le_of_ble_eq_true rfl) (Nat.le_of_ble_eq_true rfl) (Nat.le_of_ble_eq_true rfl) (Nat.le_of_ble_eq_true rfl) ⟨by decide, by decide, by decide +kernel⟩ ?_
    rintro v w ⟨rfl, hw⟩
    rw [hw]
    show Vv _ _ _ _ _ _ _ _ _ _ _ _ _ _ _ [.int (nI 19), .ref 1048753] (0, 0, g)
    refine v_siald (v := .int 1) X (dk D_Ex_ofOne 3 rfl) X.sf.2.2.2.2.2.2.1.2 (vp_in_nI (show 19 < 23 by decide) (by decide)) (by rw [nI_clamp (by decide)]; rfl) ?_
    refine v_tableIn (tgt := 36) X (dk D_Ex_ofOne 4 rfl) (by decide) (by decide) rfl (by decide) ?_
    refine v_iload_n X (dk D_Ex_ofOne 5 rfl) rfl ?_
    refine v_ineg X (dk D_Ex_ofOne 6 rfl) ?_
    exact v_iret X hlk hrt (dk D_Ex_ofOne 7 rfl) ⟨congrArg (fun z => some (Value.int z)) (by first | rfl | simp [ofO, c44]), rfl⟩
  · refine v_gets (v := .ref 1048753) X (dk D_Ex_ofOne 0 rfl) (Or.inl Z_Ex_149) X.sf.2.2.2.2.2.2.1.1 ?_
    refine v_aload_n X (dk D_Ex_ofOne 1 rfl) rfl ?_
    refine v_invVU (C := "RescanMill$Operator") (x := ⟨"RescanMill$Operator", "ordinal", "()I"⟩) (M := M_En_ordinal) (b := 1048600 + 20) (As := []) (st := [.ref 1048753]) X (c_ordO l q (i := 20) (by decide)) (dk D_Ex_ofOne 2 rfl) G_Ex_154 same_O sel_O I_En_ordinal rfl K_En_ordinal (X.sf.2.1 20 (by decide)).1 rfl rfl (Nat.le_of_ble_eq_true rfl) (Nat.le_of_ble_eq_true rfl) (Nat.le_of_ble_eq_true rfl) (Nat.le_of_ble_eq_true rfl) (Nat.le_of_ble_eq_true rfl) ⟨by decide, by decide, by decide +kernel⟩ ?_
    rintro v w ⟨rfl, hw⟩
    rw [hw]
    show Vv _ _ _ _ _ _ _ _ _ _ _ _ _ _ _ [.int (nI 20), .ref 1048753] (0, 0, g)
    refine v_siald (v := .int 2) X (dk D_Ex_ofOne 3 rfl) X.sf.2.2.2.2.2.2.1.2 (vp_in_nI (show 20 < 23 by decide) (by decide)) (by rw [nI_clamp (by decide)]; rfl) ?_
    refine v_tableIn (tgt := 39) X (dk D_Ex_ofOne 4 rfl) (by decide) (by decide) rfl (by decide) ?_
    refine v_iload_n X (dk D_Ex_ofOne 8 rfl) rfl ?_
    refine v_iconst (v := -1) X (dk D_Ex_ofOne 9 rfl) (by decide) ?_
    refine v_ixor X (dk D_Ex_ofOne 10 rfl) ?_
    exact v_iret X hlk hrt (dk D_Ex_ofOne 11 rfl) ⟨congrArg (fun z => some (Value.int z)) (by first | rfl | simp [ofO, c44]), rfl⟩
  · refine v_gets (v := .ref 1048753) X (dk D_Ex_ofOne 0 rfl) (Or.inl Z_Ex_149) X.sf.2.2.2.2.2.2.1.1 ?_
    refine v_aload_n X (dk D_Ex_ofOne 1 rfl) rfl ?_
    refine v_invVU (C := "RescanMill$Operator") (x := ⟨"RescanMill$Operator", "ordinal", "()I"⟩) (M := M_En_ordinal) (b := 1048600 + 21) (As := []) (st := [.ref 1048753]) X (c_ordO l q (i := 21) (by decide)) (dk D_Ex_ofOne 2 rfl) G_Ex_154 same_O sel_O I_En_ordinal rfl K_En_ordinal (X.sf.2.1 21 (by decide)).1 rfl rfl (Nat.le_of_ble_eq_true rfl) (Nat.le_of_ble_eq_true rfl) (Nat.le_of_ble_eq_true rfl) (Nat.le_of_ble_eq_true rfl) (Nat.le_of_ble_eq_true rfl) ⟨by decide, by decide, by decide +kernel⟩ ?_
    rintro v w ⟨rfl, hw⟩
    rw [hw]
    show Vv _ _ _ _ _ _ _ _ _ _ _ _ _ _ _ [.int (nI 21), .ref 1048753] (0, 0, g)
    refine v_siald (v := .int 3) X (dk D_Ex_ofOne 3 rfl) X.sf.2.2.2.2.2.2.1.2 (vp_in_nI (show 21 < 23 by decide) (by decide)) (by rw [nI_clamp (by decide)]; rfl) ?_
    refine v_tableIn (tgt := 43) X (dk D_Ex_ofOne 4 rfl) (by decide) (by decide) rfl (by decide) ?_
    refine v_iload_n X (dk D_Ex_ofOne 12 rfl) rfl ?_
    refine v_if_ne (tgt := 51) X (dk D_Ex_ofOne 13 rfl) (by decide) (fun c44 => ?_) (fun c44 => ?_)
    · refine v_iconst (v := 0) X (dk D_Ex_ofOne 16 rfl) (by decide) ?_
      exact v_iret X hlk hrt (dk D_Ex_ofOne 17 rfl) ⟨congrArg (fun z => some (Value.int z)) (by first | rfl | simp [ofO, c44]), rfl⟩
    · refine v_iconst (v := 1) X (dk D_Ex_ofOne 14 rfl) (by decide) ?_
      refine v_goto (tgt := 52) X (dk D_Ex_ofOne 15 rfl) (by decide) ?_
      exact v_iret X hlk hrt (dk D_Ex_ofOne 17 rfl) ⟨congrArg (fun z => some (Value.int z)) (by first | rfl | simp [ofO, c44]), rfl⟩
set_option maxHeartbeats 4000000 in
set_option maxRecDepth 100000 in
theorem c_ofTwo (l : Launch) (q : ev_T) {o : Nat} {a b : Int32} {bz : Bool} {g : mu_T} (hS : Shp g) (ho : o < 18) (hz : gI g 997 9 = if bz = true then 1 else 0) : Ctr l q M_Ex_ofTwo 1 [.ref 997, .ref (1048600 + o), .int a, .int b] (0, 0, g) (fun v w => v = some (.int (ofT o a b)) ∧ w.2.2 = if o = 16 ∨ o = 17 then xI g 997 9 (if (bz || decide (b = 0)) = true then 1 else 0) else g) := by

  refine Ctr.mk (lb := [some (.ref 997), some (.ref (1048600 + o)), some (.int a), some (.int b)]) (by decide +kernel) (Nat.le_of_ble_eq_true rfl) rfl rfl ?_
  intro pp ee ss mm aa bb mt cd X hrt hlk hnm
  have hc : o = 0 ∨ o = 1 ∨ o = 2 ∨ o = 3 ∨ o = 4 ∨ o = 5 ∨ o = 6 ∨ o = 7 ∨ o = 8 ∨ o = 9 ∨ o = 10 ∨ o = 11 ∨ o = 12 ∨ o = 13 ∨ o = 14 ∨ o = 15 ∨ o = 16 ∨ o = 17 := by omega
  rcases hc with rfl | rfl | rfl | rfl | rfl | rfl | rfl | rfl | rfl | rfl | rfl | rfl | rfl | rfl | rfl | rfl | rfl | rfl
  · refine v_gets (v := .ref 1048753) X (dk D_Ex_ofTwo 0 rfl) (Or.inl Z_Ex_149) X.sf.2.2.2.2.2.2.1.1 ?_
    refine v_aload_n X (dk D_Ex_ofTwo 1 rfl) rfl ?_
    refine v_invVU (C := "RescanMill$Operator") (x := ⟨"RescanMill$Operator", "ordinal", "()I"⟩) (M := M_En_ordinal) (b := 1048600 + 0) (As := []) (st := [.ref 1048753]) X (c_ordO l q (i := 0) (by decide)) (dk D_Ex_ofTwo 2 rfl) G_Ex_154 same_O sel_O I_En_ordinal rfl K_En_ordinal (X.sf.2.1 0 (by decide)).1 rfl rfl (Nat.le_of_ble_eq_true rfl) (Nat.le_of_ble_eq_true rfl) (Nat.le_of_ble_eq_true rfl) (Nat.le_of_ble_eq_true rfl) (Nat.le_of_ble_eq_true rfl) ⟨by decide, by decide, by decide +kernel⟩ ?_
    rintro v w ⟨rfl, hw⟩
    rw [hw]
    show Vv _ _ _ _ _ _ _ _ _ _ _ _ _ _ _ [.int (nI 0), .ref 1048753] (0, 0, g)
    refine v_siald (v := .int 4) X (dk D_Ex_ofTwo 3 rfl) X.sf.2.2.2.2.2.2.1.2 (vp_in_nI (show 0 < 23 by decide) (by decide)) (by rw [nI_clamp (by decide)]; rfl) ?_
    refine v_tableIn (tgt := 96) X (dk D_Ex_ofTwo 4 rfl) (by decide) (by decide) rfl (by decide) ?_
    refine v_iload_n X (dk D_Ex_ofTwo 5 rfl) rfl ?_
    refine v_if_ne (tgt := 104) X (dk D_Ex_ofTwo 6 rfl) (by decide) (fun c97 => ?_) (fun c97 => ?_)
    · refine v_iconst (v := 1) X (dk D_Ex_ofTwo 9 rfl) (by decide) ?_
      refine v_goto (tgt := 109) X (dk D_Ex_ofTwo 10 rfl) (by decide) ?_
      exact v_iret X hlk hrt (dk D_Ex_ofTwo 12 rfl) ⟨congrArg (fun z => some (Value.int z)) (by first | rfl | simp [ofT, c97, c101] | simp [ofT, c97]), rfl⟩
    · refine v_iload_n X (dk D_Ex_ofTwo 7 rfl) rfl ?_
      refine v_if_eq (tgt := 108) X (dk D_Ex_ofTwo 8 rfl) (by decide) (fun c101 => ?_) (fun c101 => ?_)
      · refine v_iconst (v := 0) X (dk D_Ex_ofTwo 11 rfl) (by decide) ?_
        exact v_iret X hlk hrt (dk D_Ex_ofTwo 12 rfl) ⟨congrArg (fun z => some (Value.int z)) (by first | rfl | simp [ofT, c97, c101] | simp [ofT, c97]), rfl⟩
      · refine v_iconst (v := 1) X (dk D_Ex_ofTwo 9 rfl) (by decide) ?_
        refine v_goto (tgt := 109) X (dk D_Ex_ofTwo 10 rfl) (by decide) ?_
        exact v_iret X hlk hrt (dk D_Ex_ofTwo 12 rfl) ⟨congrArg (fun z => some (Value.int z)) (by first | rfl | simp [ofT, c97, c101] | simp [ofT, c97]), rfl⟩
  · refine v_gets (v := .ref 1048753) X (dk D_Ex_ofTwo 0 rfl) (Or.inl Z_Ex_149) X.sf.2.2.2.2.2.2.1.1 ?_
    refine v_aload_n X (dk D_Ex_ofTwo 1 rfl) rfl ?_
    refine v_invVU (C := "RescanMill$Operator") (x := ⟨"RescanMill$Operator", "ordinal", "()I"⟩) (M := M_En_ordinal) (b := 1048600 + 1) (As := []) (st := [.ref 1048753]) X (c_ordO l q (i := 1) (by decide)) (dk D_Ex_ofTwo 2 rfl) G_Ex_154 same_O sel_O I_En_ordinal rfl K_En_ordinal (X.sf.2.1 1 (by decide)).1 rfl rfl (Nat.le_of_ble_eq_true rfl) (Nat.le_of_ble_eq_true rfl) (Nat.le_of_ble_eq_true rfl) (Nat.le_of_ble_eq_true rfl) (Nat.le_of_ble_eq_true rfl) ⟨by decide, by decide, by decide +kernel⟩ ?_
    rintro v w ⟨rfl, hw⟩
    rw [hw]
    show Vv _ _ _ _ _ _ _ _ _ _ _ _ _ _ _ [.int (nI 1), .ref 1048753] (0, 0, g)
    refine v_siald (v := .int 5) X (dk D_Ex_ofTwo 3 rfl) X.sf.2.2.2.2.2.2.1.2 (vp_in_nI (show 1 < 23 by decide) (by decide)) (by rw [nI_clamp (by decide)]; rfl) ?_
    refine v_tableIn (tgt := 110) X (dk D_Ex_ofTwo 4 rfl) (by decide) (by decide) rfl (by decide) ?_
    refine v_iload_n X (dk D_Ex_ofTwo 13 rfl) rfl ?_
    refine v_if_eq (tgt := 122) X (dk D_Ex_ofTwo 14 rfl) (by decide) (fun c111 => ?_) (fun c111 => ?_)
    · refine v_iconst (v := 0) X (dk D_Ex_ofTwo 19 rfl) (by decide) ?_
      exact v_iret X hlk hrt (dk D_Ex_ofTwo 20 rfl) ⟨congrArg (fun z => some (Value.int z)) (by first | rfl | simp [ofT, c111, c115] | simp [ofT, c111]), rfl⟩
    · refine v_iload_n X (dk D_Ex_ofTwo 15 rfl) rfl ?_
      refine v_if_eq (tgt := 122) X (dk D_Ex_ofTwo 16 rfl) (by decide) (fun c115 => ?_) (fun c115 => ?_)
      · refine v_iconst (v := 0) X (dk D_Ex_ofTwo 19 rfl) (by decide) ?_
        exact v_iret X hlk hrt (dk D_Ex_ofTwo 20 rfl) ⟨congrArg (fun z => some (Value.int z)) (by first | rfl | simp [ofT, c111, c115] | simp [ofT, c111]), rfl⟩
      · refine v_iconst (v := 1) X (dk D_Ex_ofTwo 17 rfl) (by decide) ?_
        refine v_goto (tgt := 123) X (dk D_Ex_ofTwo 18 rfl) (by decide) ?_
        exact v_iret X hlk hrt (dk D_Ex_ofTwo 20 rfl) ⟨congrArg (fun z => some (Value.int z)) (by first | rfl | simp [ofT, c111, c115] | simp [ofT, c111]), rfl⟩
  · refine v_gets (v := .ref 1048753) X (dk D_Ex_ofTwo 0 rfl) (Or.inl Z_Ex_149) X.sf.2.2.2.2.2.2.1.1 ?_
    refine v_aload_n X (dk D_Ex_ofTwo 1 rfl) rfl ?_
    refine v_invVU (C := "RescanMill$Operator") (x := ⟨"RescanMill$Operator", "ordinal", "()I"⟩) (M := M_En_ordinal) (b := 1048600 + 2) (As := []) (st := [.ref 1048753]) X (c_ordO l q (i := 2) (by decide)) (dk D_Ex_ofTwo 2 rfl) G_Ex_154 same_O sel_O I_En_ordinal rfl K_En_ordinal (X.sf.2.1 2 (by decide)).1 rfl rfl (Nat.le_of_ble_eq_true rfl) (Nat.le_of_ble_eq_true rfl) (Nat.le_of_ble_eq_true rfl) (Nat.le_of_ble_eq_true rfl) (Nat.le_of_ble_eq_true rfl) ⟨by decide, by decide, by decide +kernel⟩ ?_
    rintro v w ⟨rfl, hw⟩
    rw [hw]
    show Vv _ _ _ _ _ _ _ _ _ _ _ _ _ _ _ [.int (nI 2), .ref 1048753] (0, 0, g)
    refine v_siald (v := .int 9) X (dk D_Ex_ofTwo 3 rfl) X.sf.2.2.2.2.2.2.1.2 (vp_in_nI (show 2 < 23 by decide) (by decide)) (by rw [nI_clamp (by decide)]; rfl) ?_
    refine v_tableIn (tgt := 136) X (dk D_Ex_ofTwo 4 rfl) (by decide) (by decide) rfl (by decide) ?_
    refine v_iload_n X (dk D_Ex_ofTwo 33 rfl) rfl ?_
    refine v_iload_n X (dk D_Ex_ofTwo 34 rfl) rfl ?_
    refine v_icmp_ne (tgt := 145) X (dk D_Ex_ofTwo 35 rfl) (by decide) (fun c138 => ?_) (fun c138 => ?_)
    · refine v_iconst (v := 0) X (dk D_Ex_ofTwo 38 rfl) (by decide) ?_
      exact v_iret X hlk hrt (dk D_Ex_ofTwo 39 rfl) ⟨congrArg (fun z => some (Value.int z)) (by first | rfl | simp [ofT, c138, c149] | simp [ofT, c138]), rfl⟩
    · refine v_iconst (v := 1) X (dk D_Ex_ofTwo 36 rfl) (by decide) ?_
      refine v_goto (tgt := 146) X (dk D_Ex_ofTwo 37 rfl) (by decide) ?_
      exact v_iret X hlk hrt (dk D_Ex_ofTwo 39 rfl) ⟨congrArg (fun z => some (Value.int z)) (by first | rfl | simp [ofT, c138, c149] | simp [ofT, c138]), rfl⟩
  · refine v_gets (v := .ref 1048753) X (dk D_Ex_ofTwo 0 rfl) (Or.inl Z_Ex_149) X.sf.2.2.2.2.2.2.1.1 ?_
    refine v_aload_n X (dk D_Ex_ofTwo 1 rfl) rfl ?_
    refine v_invVU (C := "RescanMill$Operator") (x := ⟨"RescanMill$Operator", "ordinal", "()I"⟩) (M := M_En_ordinal) (b := 1048600 + 3) (As := []) (st := [.ref 1048753]) X (c_ordO l q (i := 3) (by decide)) (dk D_Ex_ofTwo 2 rfl) G_Ex_154 same_O sel_O I_En_ordinal rfl K_En_ordinal (X.sf.2.1 3 (by decide)).1 rfl rfl (Nat.le_of_ble_eq_true rfl) (Nat.le_of_ble_eq_true rfl) (Nat.le_of_ble_eq_true rfl) (Nat.le_of_ble_eq_true rfl) (Nat.le_of_ble_eq_true rfl) ⟨by decide, by decide, by decide +kernel⟩ ?_
    rintro v w ⟨rfl, hw⟩
    rw [hw]
    show Vv _ _ _ _ _ _ _ _ _ _ _ _ _ _ _ [.int (nI 3), .ref 1048753] (0, 0, g)
    refine v_siald (v := .int 10) X (dk D_Ex_ofTwo 3 rfl) X.sf.2.2.2.2.2.2.1.2 (vp_in_nI (show 3 < 23 by decide) (by decide)) (by rw [nI_clamp (by decide)]; rfl) ?_
    refine v_tableIn (tgt := 147) X (dk D_Ex_ofTwo 4 rfl) (by decide) (by decide) rfl (by decide) ?_
    refine v_iload_n X (dk D_Ex_ofTwo 40 rfl) rfl ?_
    refine v_iload_n X (dk D_Ex_ofTwo 41 rfl) rfl ?_
    refine v_icmp_eq (tgt := 156) X (dk D_Ex_ofTwo 42 rfl) (by decide) (fun c149 => ?_) (fun c149 => ?_)
    · refine v_iconst (v := 0) X (dk D_Ex_ofTwo 45 rfl) (by decide) ?_
      exact v_iret X hlk hrt (dk D_Ex_ofTwo 46 rfl) ⟨congrArg (fun z => some (Value.int z)) (by first | rfl | simp [ofT, c149, c160] | simp [ofT, c149]), rfl⟩
    · refine v_iconst (v := 1) X (dk D_Ex_ofTwo 43 rfl) (by decide) ?_
      refine v_goto (tgt := 157) X (dk D_Ex_ofTwo 44 rfl) (by decide) ?_
      exact v_iret X hlk hrt (dk D_Ex_ofTwo 46 rfl) ⟨congrArg (fun z => some (Value.int z)) (by first | rfl | simp [ofT, c149, c160] | simp [ofT, c149]), rfl⟩
  · refine v_gets (v := .ref 1048753) X (dk D_Ex_ofTwo 0 rfl) (Or.inl Z_Ex_149) X.sf.2.2.2.2.2.2.1.1 ?_
    refine v_aload_n X (dk D_Ex_ofTwo 1 rfl) rfl ?_
    refine v_invVU (C := "RescanMill$Operator") (x := ⟨"RescanMill$Operator", "ordinal", "()I"⟩) (M := M_En_ordinal) (b := 1048600 + 4) (As := []) (st := [.ref 1048753]) X (c_ordO l q (i := 4) (by decide)) (dk D_Ex_ofTwo 2 rfl) G_Ex_154 same_O sel_O I_En_ordinal rfl K_En_ordinal (X.sf.2.1 4 (by decide)).1 rfl rfl (Nat.le_of_ble_eq_true rfl) (Nat.le_of_ble_eq_true rfl) (Nat.le_of_ble_eq_true rfl) (Nat.le_of_ble_eq_true rfl) (Nat.le_of_ble_eq_true rfl) ⟨by decide, by decide, by decide +kernel⟩ ?_
    rintro v w ⟨rfl, hw⟩
    rw [hw]
    show Vv _ _ _ _ _ _ _ _ _ _ _ _ _ _ _ [.int (nI 4), .ref 1048753] (0, 0, g)
    refine v_siald (v := .int 13) X (dk D_Ex_ofTwo 3 rfl) X.sf.2.2.2.2.2.2.1.2 (vp_in_nI (show 4 < 23 by decide) (by decide)) (by rw [nI_clamp (by decide)]; rfl) ?_
    refine v_tableIn (tgt := 180) X (dk D_Ex_ofTwo 4 rfl) (by decide) (by decide) rfl (by decide) ?_
    refine v_iload_n X (dk D_Ex_ofTwo 61 rfl) rfl ?_
    refine v_iload_n X (dk D_Ex_ofTwo 62 rfl) rfl ?_
    refine v_icmp_gt (tgt := 189) X (dk D_Ex_ofTwo 63 rfl) (by decide) (fun c182 => ?_) (fun c182 => ?_)
    · refine v_iconst (v := 0) X (dk D_Ex_ofTwo 66 rfl) (by decide) ?_
      exact v_iret X hlk hrt (dk D_Ex_ofTwo 67 rfl) ⟨congrArg (fun z => some (Value.int z)) (by first | rfl | simp [ofT, c182, c193] | simp [ofT, c182]), rfl⟩
    · refine v_iconst (v := 1) X (dk D_Ex_ofTwo 64 rfl) (by decide) ?_
      refine v_goto (tgt := 190) X (dk D_Ex_ofTwo 65 rfl) (by decide) ?_
      exact v_iret X hlk hrt (dk D_Ex_ofTwo 67 rfl) ⟨congrArg (fun z => some (Value.int z)) (by first | rfl | simp [ofT, c182, c193] | simp [ofT, c182]), rfl⟩
  · refine v_gets (v := .ref 1048753) X (dk D_Ex_ofTwo 0 rfl) (Or.inl Z_Ex_149) X.sf.2.2.2.2.2.2.1.1 ?_
    refine v_aload_n X (dk D_Ex_ofTwo 1 rfl) rfl ?_
    refine v_invVU (C := "RescanMill$Operator") (x := ⟨"RescanMill$Operator", "ordinal", "()I"⟩) (M := M_En_ordinal) (b := 1048600 + 5) (As := []) (st := [.ref 1048753]) X (c_ordO l q (i := 5) (by decide)) (dk D_Ex_ofTwo 2 rfl) G_Ex_154 same_O sel_O I_En_ordinal rfl K_En_ordinal (X.sf.2.1 5 (by decide)).1 rfl rfl (Nat.le_of_ble_eq_true rfl) (Nat.le_of_ble_eq_true rfl) (Nat.le_of_ble_eq_true rfl) (Nat.le_of_ble_eq_true rfl) (Nat.le_of_ble_eq_true rfl) ⟨by decide, by decide, by decide +kernel⟩ ?_
    rintro v w ⟨rfl, hw⟩
    rw [hw]
    show Vv _ _ _ _ _ _ _ _ _ _ _ _ _ _ _ [.int (nI 5), .ref 1048753] (0, 0, g)
    refine v_siald (v := .int 14) X (dk D_Ex_ofTwo 3 rfl) X.sf.2.2.2.2.2.2.1.2 (vp_in_nI (show 5 < 23 by decide) (by decide)) (by rw [nI_clamp (by decide)]; rfl) ?_
    refine v_tableIn (tgt := 191) X (dk D_Ex_ofTwo 4 rfl) (by decide) (by decide) rfl (by decide) ?_
    refine v_iload_n X (dk D_Ex_ofTwo 68 rfl) rfl ?_
    refine v_iload_n X (dk D_Ex_ofTwo 69 rfl) rfl ?_
    refine v_icmp_lt (tgt := 200) X (dk D_Ex_ofTwo 70 rfl) (by decide) (fun c193 => ?_) (fun c193 => ?_)
    · refine v_iconst (v := 0) X (dk D_Ex_ofTwo 73 rfl) (by decide) ?_
      exact v_iret X hlk hrt (dk D_Ex_ofTwo 74 rfl) ⟨congrArg (fun z => some (Value.int z)) (by first | rfl | simp [ofT, c193]), rfl⟩
    · refine v_iconst (v := 1) X (dk D_Ex_ofTwo 71 rfl) (by decide) ?_
      refine v_goto (tgt := 201) X (dk D_Ex_ofTwo 72 rfl) (by decide) ?_
      exact v_iret X hlk hrt (dk D_Ex_ofTwo 74 rfl) ⟨congrArg (fun z => some (Value.int z)) (by first | rfl | simp [ofT, c193]), rfl⟩
  · refine v_gets (v := .ref 1048753) X (dk D_Ex_ofTwo 0 rfl) (Or.inl Z_Ex_149) X.sf.2.2.2.2.2.2.1.1 ?_
    refine v_aload_n X (dk D_Ex_ofTwo 1 rfl) rfl ?_
    refine v_invVU (C := "RescanMill$Operator") (x := ⟨"RescanMill$Operator", "ordinal", "()I"⟩) (M := M_En_ordinal) (b := 1048600 + 6) (As := []) (st := [.ref 1048753]) X (c_ordO l q (i := 6) (by decide)) (dk D_Ex_ofTwo 2 rfl) G_Ex_154 same_O sel_O I_En_ordinal rfl K_En_ordinal (X.sf.2.1 6 (by decide)).1 rfl rfl (Nat.le_of_ble_eq_true rfl) (Nat.le_of_ble_eq_true rfl) (Nat.le_of_ble_eq_true rfl) (Nat.le_of_ble_eq_true rfl) (Nat.le_of_ble_eq_true rfl) ⟨by decide, by decide, by decide +kernel⟩ ?_
    rintro v w ⟨rfl, hw⟩
    rw [hw]
    show Vv _ _ _ _ _ _ _ _ _ _ _ _ _ _ _ [.int (nI 6), .ref 1048753] (0, 0, g)
    refine v_siald (v := .int 15) X (dk D_Ex_ofTwo 3 rfl) X.sf.2.2.2.2.2.2.1.2 (vp_in_nI (show 6 < 23 by decide) (by decide)) (by rw [nI_clamp (by decide)]; rfl) ?_
    refine v_tableIn (tgt := 202) X (dk D_Ex_ofTwo 4 rfl) (by decide) (by decide) rfl (by decide) ?_
    refine v_iload_n X (dk D_Ex_ofTwo 75 rfl) rfl ?_
    refine v_iload_n X (dk D_Ex_ofTwo 76 rfl) rfl ?_
    refine v_bipush (v := 31) X (dk D_Ex_ofTwo 77 rfl) (by decide) ?_
    refine v_iand X (dk D_Ex_ofTwo 78 rfl) ?_
    refine v_ishl X (dk D_Ex_ofTwo 79 rfl) ?_
    exact v_iret X hlk hrt (dk D_Ex_ofTwo 80 rfl) ⟨congrArg (fun z => some (Value.int z)) (by first | rfl), rfl⟩
  · refine v_gets (v := .ref 1048753) X (dk D_Ex_ofTwo 0 rfl) (Or.inl Z_Ex_149) X.sf.2.2.2.2.2.2.1.1 ?_
    refine v_aload_n X (dk D_Ex_ofTwo 1 rfl) rfl ?_
    refine v_invVU (C := "RescanMill$Operator") (x := ⟨"RescanMill$Operator", "ordinal", "()I"⟩) (M := M_En_ordinal) (b := 1048600 + 7) (As := []) (st := [.ref 1048753]) X (c_ordO l q (i := 7) (by decide)) (dk D_Ex_ofTwo 2 rfl) G_Ex_154 same_O sel_O I_En_ordinal rfl K_En_ordinal (X.sf.2.1 7 (by decide)).1 rfl rfl (Nat.le_of_ble_eq_true rfl) (Nat.le_of_ble_eq_true rfl) (Nat.le_of_ble_eq_true rfl) (Nat.le_of_ble_eq_true rfl) (Nat.le_of_ble_eq_true rfl) ⟨by decide, by decide, by decide +kernel⟩ ?_
    rintro v w ⟨rfl, hw⟩
    rw [hw]
    show Vv _ _ _ _ _ _ _ _ _ _ _ _ _ _ _ [.int (nI 7), .ref 1048753] (0, 0, g)
    refine v_siald (v := .int 16) X (dk D_Ex_ofTwo 3 rfl) X.sf.2.2.2.2.2.2.1.2 (vp_in_nI (show 7 < 23 by decide) (by decide)) (by rw [nI_clamp (by decide)]; rfl) ?_
    refine v_tableIn (tgt := 209) X (dk D_Ex_ofTwo 4 rfl) (by decide) (by decide) rfl (by decide) ?_
    refine v_iload_n X (dk D_Ex_ofTwo 81 rfl) rfl ?_
    refine v_iload_n X (dk D_Ex_ofTwo 82 rfl) rfl ?_
    refine v_bipush (v := 31) X (dk D_Ex_ofTwo 83 rfl) (by decide) ?_
    refine v_iand X (dk D_Ex_ofTwo 84 rfl) ?_
    refine v_ishr X (dk D_Ex_ofTwo 85 rfl) ?_
    exact v_iret X hlk hrt (dk D_Ex_ofTwo 86 rfl) ⟨congrArg (fun z => some (Value.int z)) (by first | rfl), rfl⟩
  · refine v_gets (v := .ref 1048753) X (dk D_Ex_ofTwo 0 rfl) (Or.inl Z_Ex_149) X.sf.2.2.2.2.2.2.1.1 ?_
    refine v_aload_n X (dk D_Ex_ofTwo 1 rfl) rfl ?_
    refine v_invVU (C := "RescanMill$Operator") (x := ⟨"RescanMill$Operator", "ordinal", "()I"⟩) (M := M_En_ordinal) (b := 1048600 + 8) (As := []) (st := [.ref 1048753]) X (c_ordO l q (i := 8) (by decide)) (dk D_Ex_ofTwo 2 rfl) G_Ex_154 same_O sel_O I_En_ordinal rfl K_En_ordinal (X.sf.2.1 8 (by decide)).1 rfl rfl (Nat.le_of_ble_eq_true rfl) (Nat.le_of_ble_eq_true rfl) (Nat.le_of_ble_eq_true rfl) (Nat.le_of_ble_eq_true rfl) (Nat.le_of_ble_eq_true rfl) ⟨by decide, by decide, by decide +kernel⟩ ?_
    rintro v w ⟨rfl, hw⟩
    rw [hw]
    show Vv _ _ _ _ _ _ _ _ _ _ _ _ _ _ _ [.int (nI 8), .ref 1048753] (0, 0, g)
    refine v_siald (v := .int 6) X (dk D_Ex_ofTwo 3 rfl) X.sf.2.2.2.2.2.2.1.2 (vp_in_nI (show 8 < 23 by decide) (by decide)) (by rw [nI_clamp (by decide)]; rfl) ?_
    refine v_tableIn (tgt := 124) X (dk D_Ex_ofTwo 4 rfl) (by decide) (by decide) rfl (by decide) ?_
    refine v_iload_n X (dk D_Ex_ofTwo 21 rfl) rfl ?_
    refine v_iload_n X (dk D_Ex_ofTwo 22 rfl) rfl ?_
    refine v_ior X (dk D_Ex_ofTwo 23 rfl) ?_
    exact v_iret X hlk hrt (dk D_Ex_ofTwo 24 rfl) ⟨congrArg (fun z => some (Value.int z)) (by first | rfl), rfl⟩
  · refine v_gets (v := .ref 1048753) X (dk D_Ex_ofTwo 0 rfl) (Or.inl Z_Ex_149) X.sf.2.2.2.2.2.2.1.1 ?_
    refine v_aload_n X (dk D_Ex_ofTwo 1 rfl) rfl ?_
    refine v_invVU (C := "RescanMill$Operator") (x := ⟨"RescanMill$Operator", "ordinal", "()I"⟩) (M := M_En_ordinal) (b := 1048600 + 9) (As := []) (st := [.ref 1048753]) X (c_ordO l q (i := 9) (by decide)) (dk D_Ex_ofTwo 2 rfl) G_Ex_154 same_O sel_O I_En_ordinal rfl K_En_ordinal (X.sf.2.1 9 (by decide)).1 rfl rfl (Nat.le_of_ble_eq_true rfl) (Nat.le_of_ble_eq_true rfl) (Nat.le_of_ble_eq_true rfl) (Nat.le_of_ble_eq_true rfl) (Nat.le_of_ble_eq_true rfl) ⟨by decide, by decide, by decide +kernel⟩ ?_
    rintro v w ⟨rfl, hw⟩
    rw [hw]
    show Vv _ _ _ _ _ _ _ _ _ _ _ _ _ _ _ [.int (nI 9), .ref 1048753] (0, 0, g)
    refine v_siald (v := .int 7) X (dk D_Ex_ofTwo 3 rfl) X.sf.2.2.2.2.2.2.1.2 (vp_in_nI (show 9 < 23 by decide) (by decide)) (by rw [nI_clamp (by decide)]; rfl) ?_
    refine v_tableIn (tgt := 128) X (dk D_Ex_ofTwo 4 rfl) (by decide) (by decide) rfl (by decide) ?_
    refine v_iload_n X (dk D_Ex_ofTwo 25 rfl) rfl ?_
    refine v_iload_n X (dk D_Ex_ofTwo 26 rfl) rfl ?_
    refine v_ixor X (dk D_Ex_ofTwo 27 rfl) ?_
    exact v_iret X hlk hrt (dk D_Ex_ofTwo 28 rfl) ⟨congrArg (fun z => some (Value.int z)) (by first | rfl | simp [ofT, c138]), rfl⟩
  · refine v_gets (v := .ref 1048753) X (dk D_Ex_ofTwo 0 rfl) (Or.inl Z_Ex_149) X.sf.2.2.2.2.2.2.1.1 ?_
    refine v_aload_n X (dk D_Ex_ofTwo 1 rfl) rfl ?_
    refine v_invVU (C := "RescanMill$Operator") (x := ⟨"RescanMill$Operator", "ordinal", "()I"⟩) (M := M_En_ordinal) (b := 1048600 + 10) (As := []) (st := [.ref 1048753]) X (c_ordO l q (i := 10) (by decide)) (dk D_Ex_ofTwo 2 rfl) G_Ex_154 same_O sel_O I_En_ordinal rfl K_En_ordinal (X.sf.2.1 10 (by decide)).1 rfl rfl (Nat.le_of_ble_eq_true rfl) (Nat.le_of_ble_eq_true rfl) (Nat.le_of_ble_eq_true rfl) (Nat.le_of_ble_eq_true rfl) (Nat.le_of_ble_eq_true rfl) ⟨by decide, by decide, by decide +kernel⟩ ?_
    rintro v w ⟨rfl, hw⟩
    rw [hw]
    show Vv _ _ _ _ _ _ _ _ _ _ _ _ _ _ _ [.int (nI 10), .ref 1048753] (0, 0, g)
    refine v_siald (v := .int 8) X (dk D_Ex_ofTwo 3 rfl) X.sf.2.2.2.2.2.2.1.2 (vp_in_nI (show 10 < 23 by decide) (by decide)) (by rw [nI_clamp (by decide)]; rfl) ?_
    refine v_tableIn (tgt := 132) X (dk D_Ex_ofTwo 4 rfl) (by decide) (by decide) rfl (by decide) ?_
    refine v_iload_n X (dk D_Ex_ofTwo 29 rfl) rfl ?_
    refine v_iload_n X (dk D_Ex_ofTwo 30 rfl) rfl ?_
    refine v_iand X (dk D_Ex_ofTwo 31 rfl) ?_
    exact v_iret X hlk hrt (dk D_Ex_ofTwo 32 rfl) ⟨congrArg (fun z => some (Value.int z)) (by first | rfl | simp [ofT, c138]), rfl⟩
  · refine v_gets (v := .ref 1048753) X (dk D_Ex_ofTwo 0 rfl) (Or.inl Z_Ex_149) X.sf.2.2.2.2.2.2.1.1 ?_
    refine v_aload_n X (dk D_Ex_ofTwo 1 rfl) rfl ?_
    refine v_invVU (C := "RescanMill$Operator") (x := ⟨"RescanMill$Operator", "ordinal", "()I"⟩) (M := M_En_ordinal) (b := 1048600 + 11) (As := []) (st := [.ref 1048753]) X (c_ordO l q (i := 11) (by decide)) (dk D_Ex_ofTwo 2 rfl) G_Ex_154 same_O sel_O I_En_ordinal rfl K_En_ordinal (X.sf.2.1 11 (by decide)).1 rfl rfl (Nat.le_of_ble_eq_true rfl) (Nat.le_of_ble_eq_true rfl) (Nat.le_of_ble_eq_true rfl) (Nat.le_of_ble_eq_true rfl) (Nat.le_of_ble_eq_true rfl) ⟨by decide, by decide, by decide +kernel⟩ ?_
    rintro v w ⟨rfl, hw⟩
    rw [hw]
    show Vv _ _ _ _ _ _ _ _ _ _ _ _ _ _ _ [.int (nI 11), .ref 1048753] (0, 0, g)
    refine v_siald (v := .int 11) X (dk D_Ex_ofTwo 3 rfl) X.sf.2.2.2.2.2.2.1.2 (vp_in_nI (show 11 < 23 by decide) (by decide)) (by rw [nI_clamp (by decide)]; rfl) ?_
    refine v_tableIn (tgt := 158) X (dk D_Ex_ofTwo 4 rfl) (by decide) (by decide) rfl (by decide) ?_
    refine v_iload_n X (dk D_Ex_ofTwo 47 rfl) rfl ?_
    refine v_iload_n X (dk D_Ex_ofTwo 48 rfl) rfl ?_
    refine v_icmp_ge (tgt := 167) X (dk D_Ex_ofTwo 49 rfl) (by decide) (fun c160 => ?_) (fun c160 => ?_)
    · refine v_iconst (v := 0) X (dk D_Ex_ofTwo 52 rfl) (by decide) ?_
      exact v_iret X hlk hrt (dk D_Ex_ofTwo 53 rfl) ⟨congrArg (fun z => some (Value.int z)) (by first | rfl | simp [ofT, c160, c171] | simp [ofT, c160]), rfl⟩
    · refine v_iconst (v := 1) X (dk D_Ex_ofTwo 50 rfl) (by decide) ?_
      refine v_goto (tgt := 168) X (dk D_Ex_ofTwo 51 rfl) (by decide) ?_
      exact v_iret X hlk hrt (dk D_Ex_ofTwo 53 rfl) ⟨congrArg (fun z => some (Value.int z)) (by first | rfl | simp [ofT, c160, c171] | simp [ofT, c160]), rfl⟩
  · refine v_gets (v := .ref 1048753) X (dk D_Ex_ofTwo 0 rfl) (Or.inl Z_Ex_149) X.sf.2.2.2.2.2.2.1.1 ?_
    refine v_aload_n X (dk D_Ex_ofTwo 1 rfl) rfl ?_
    refine v_invVU (C := "RescanMill$Operator") (x := ⟨"RescanMill$Operator", "ordinal", "()I"⟩) (M := M_En_ordinal) (b := 1048600 + 12) (As := []) (st := [.ref 1048753]) X (c_ordO l q (i := 12) (by decide)) (dk D_Ex_ofTwo 2 rfl) G_Ex_154 same_O sel_O I_En_ordinal rfl K_En_ordinal (X.sf.2.1 12 (by decide)).1 rfl rfl (Nat.le_of_ble_eq_true rfl) (Nat.le_of_ble_eq_true rfl) (Nat.le_of_ble_eq_true rfl) (Nat.le_of_ble_eq_true rfl) (Nat.le_of_ble_eq_true rfl) ⟨by decide, by decide, by decide +kernel⟩ ?_
    rintro v w ⟨rfl, hw⟩
    rw [hw]
    show Vv _ _ _ _ _ _ _ _ _ _ _ _ _ _ _ [.int (nI 12), .ref 1048753] (0, 0, g)
    refine v_siald (v := .int 12) X (dk D_Ex_ofTwo 3 rfl) X.sf.2.2.2.2.2.2.1.2 (vp_in_nI (show 12 < 23 by decide) (by decide)) (by rw [nI_clamp (by decide)]; rfl) ?_
    refine v_tableIn (tgt := 169) X (dk D_Ex_ofTwo 4 rfl) (by decide) (by decide) rfl (by decide) ?_
    refine v_iload_n X (dk D_Ex_ofTwo 54 rfl) rfl ?_
    refine v_iload_n X (dk D_Ex_ofTwo 55 rfl) rfl ?_
    refine v_icmp_le (tgt := 178) X (dk D_Ex_ofTwo 56 rfl) (by decide) (fun c171 => ?_) (fun c171 => ?_)
    · refine v_iconst (v := 0) X (dk D_Ex_ofTwo 59 rfl) (by decide) ?_
      exact v_iret X hlk hrt (dk D_Ex_ofTwo 60 rfl) ⟨congrArg (fun z => some (Value.int z)) (by first | rfl | simp [ofT, c171, c182] | simp [ofT, c171]), rfl⟩
    · refine v_iconst (v := 1) X (dk D_Ex_ofTwo 57 rfl) (by decide) ?_
      refine v_goto (tgt := 179) X (dk D_Ex_ofTwo 58 rfl) (by decide) ?_
      exact v_iret X hlk hrt (dk D_Ex_ofTwo 60 rfl) ⟨congrArg (fun z => some (Value.int z)) (by first | rfl | simp [ofT, c171, c182] | simp [ofT, c171]), rfl⟩
  · refine v_gets (v := .ref 1048753) X (dk D_Ex_ofTwo 0 rfl) (Or.inl Z_Ex_149) X.sf.2.2.2.2.2.2.1.1 ?_
    refine v_aload_n X (dk D_Ex_ofTwo 1 rfl) rfl ?_
    refine v_invVU (C := "RescanMill$Operator") (x := ⟨"RescanMill$Operator", "ordinal", "()I"⟩) (M := M_En_ordinal) (b := 1048600 + 13) (As := []) (st := [.ref 1048753]) X (c_ordO l q (i := 13) (by decide)) (dk D_Ex_ofTwo 2 rfl) G_Ex_154 same_O sel_O I_En_ordinal rfl K_En_ordinal (X.sf.2.1 13 (by decide)).1 rfl rfl (Nat.le_of_ble_eq_true rfl) (Nat.le_of_ble_eq_true rfl) (Nat.le_of_ble_eq_true rfl) (Nat.le_of_ble_eq_true rfl) (Nat.le_of_ble_eq_true rfl) ⟨by decide, by decide, by decide +kernel⟩ ?_
    rintro v w ⟨rfl, hw⟩
    rw [hw]
    show Vv _ _ _ _ _ _ _ _ _ _ _ _ _ _ _ [.int (nI 13), .ref 1048753] (0, 0, g)
    refine v_siald (v := .int 17) X (dk D_Ex_ofTwo 3 rfl) X.sf.2.2.2.2.2.2.1.2 (vp_in_nI (show 13 < 23 by decide) (by decide)) (by rw [nI_clamp (by decide)]; rfl) ?_
    refine v_tableIn (tgt := 216) X (dk D_Ex_ofTwo 4 rfl) (by decide) (by decide) rfl (by decide) ?_
    refine v_iload_n X (dk D_Ex_ofTwo 87 rfl) rfl ?_
    refine v_iload_n X (dk D_Ex_ofTwo 88 rfl) rfl ?_
    refine v_iadd X (dk D_Ex_ofTwo 89 rfl) ?_
    exact v_iret X hlk hrt (dk D_Ex_ofTwo 90 rfl) ⟨congrArg (fun z => some (Value.int z)) (by first | rfl), rfl⟩
  · refine v_gets (v := .ref 1048753) X (dk D_Ex_ofTwo 0 rfl) (Or.inl Z_Ex_149) X.sf.2.2.2.2.2.2.1.1 ?_
    refine v_aload_n X (dk D_Ex_ofTwo 1 rfl) rfl ?_
    refine v_invVU (C := "RescanMill$Operator") (x := ⟨"RescanMill$Operator", "ordinal", "()I"⟩) (M := M_En_ordinal) (b := 1048600 + 14) (As := []) (st := [.ref 1048753]) X (c_ordO l q (i := 14) (by decide)) (dk D_Ex_ofTwo 2 rfl) G_Ex_154 same_O sel_O I_En_ordinal rfl K_En_ordinal (X.sf.2.1 14 (by decide)).1 rfl rfl (Nat.le_of_ble_eq_true rfl) (Nat.le_of_ble_eq_true rfl) (Nat.le_of_ble_eq_true rfl) (Nat.le_of_ble_eq_true rfl) (Nat.le_of_ble_eq_true rfl) ⟨by decide, by decide, by decide +kernel⟩ ?_
    rintro v w ⟨rfl, hw⟩
    rw [hw]
    show Vv _ _ _ _ _ _ _ _ _ _ _ _ _ _ _ [.int (nI 14), .ref 1048753] (0, 0, g)
    refine v_siald (v := .int 18) X (dk D_Ex_ofTwo 3 rfl) X.sf.2.2.2.2.2.2.1.2 (vp_in_nI (show 14 < 23 by decide) (by decide)) (by rw [nI_clamp (by decide)]; rfl) ?_
    refine v_tableIn (tgt := 220) X (dk D_Ex_ofTwo 4 rfl) (by decide) (by decide) rfl (by decide) ?_
    refine v_iload_n X (dk D_Ex_ofTwo 91 rfl) rfl ?_
    refine v_iload_n X (dk D_Ex_ofTwo 92 rfl) rfl ?_
    refine v_isub X (dk D_Ex_ofTwo 93 rfl) ?_
    exact v_iret X hlk hrt (dk D_Ex_ofTwo 94 rfl) ⟨congrArg (fun z => some (Value.int z)) (by first | rfl), rfl⟩
  · refine v_gets (v := .ref 1048753) X (dk D_Ex_ofTwo 0 rfl) (Or.inl Z_Ex_149) X.sf.2.2.2.2.2.2.1.1 ?_
    refine v_aload_n X (dk D_Ex_ofTwo 1 rfl) rfl ?_
    refine v_invVU (C := "RescanMill$Operator") (x := ⟨"RescanMill$Operator", "ordinal", "()I"⟩) (M := M_En_ordinal) (b := 1048600 + 15) (As := []) (st := [.ref 1048753]) X (c_ordO l q (i := 15) (by decide)) (dk D_Ex_ofTwo 2 rfl) G_Ex_154 same_O sel_O I_En_ordinal rfl K_En_ordinal (X.sf.2.1 15 (by decide)).1 rfl rfl (Nat.le_of_ble_eq_true rfl) (Nat.le_of_ble_eq_true rfl) (Nat.le_of_ble_eq_true rfl) (Nat.le_of_ble_eq_true rfl) (Nat.le_of_ble_eq_true rfl) ⟨by decide, by decide, by decide +kernel⟩ ?_
    rintro v w ⟨rfl, hw⟩
    rw [hw]
    show Vv _ _ _ _ _ _ _ _ _ _ _ _ _ _ _ [.int (nI 15), .ref 1048753] (0, 0, g)
    refine v_siald (v := .int 19) X (dk D_Ex_ofTwo 3 rfl) X.sf.2.2.2.2.2.2.1.2 (vp_in_nI (show 15 < 23 by decide) (by decide)) (by rw [nI_clamp (by decide)]; rfl) ?_
    refine v_tableIn (tgt := 224) X (dk D_Ex_ofTwo 4 rfl) (by decide) (by decide) rfl (by decide) ?_
    refine v_iload_n X (dk D_Ex_ofTwo 95 rfl) rfl ?_
    refine v_iload_n X (dk D_Ex_ofTwo 96 rfl) rfl ?_
    refine v_imul X (dk D_Ex_ofTwo 97 rfl) ?_
    exact v_iret X hlk hrt (dk D_Ex_ofTwo 98 rfl) ⟨congrArg (fun z => some (Value.int z)) (by first | rfl | simp [ofT, c234]), rfl⟩
  · by_cases hb0 : b = 0
    · refine v_gets (v := .ref 1048753) X (dk D_Ex_ofTwo 0 rfl) (Or.inl Z_Ex_149) X.sf.2.2.2.2.2.2.1.1 ?_
      refine v_aload_n X (dk D_Ex_ofTwo 1 rfl) rfl ?_
      refine v_invVU (C := "RescanMill$Operator") (x := ⟨"RescanMill$Operator", "ordinal", "()I"⟩) (M := M_En_ordinal) (b := 1048600 + 16) (As := []) (st := [.ref 1048753]) X (c_ordO l q (i := 16) (by decide)) (dk D_Ex_ofTwo 2 rfl) G_Ex_154 same_O sel_O I_En_ordinal rfl K_En_ordinal (X.sf.2.1 16 (by decide)).1 rfl rfl (Nat.le_of_ble_eq_true rfl) (Nat.le_of_ble_eq_true rfl) (Nat.le_of_ble_eq_true rfl) (Nat.le_of_ble_eq_true rfl) (Nat.le_of_ble_eq_true rfl) ⟨by decide, by decide, by decide +kernel⟩ ?_
      rintro v w ⟨rfl, hw⟩
      rw [hw]
      show Vv _ _ _ _ _ _ _ _ _ _ _ _ _ _ _ [.int (nI 16), .ref 1048753] (0, 0, g)
      refine v_siald (v := .int 20) X (dk D_Ex_ofTwo 3 rfl) X.sf.2.2.2.2.2.2.1.2 (vp_in_nI (show 16 < 23 by decide) (by decide)) (by rw [nI_clamp (by decide)]; rfl) ?_
      refine v_tableIn (tgt := 228) X (dk D_Ex_ofTwo 4 rfl) (by decide) (by decide) rfl (by decide) ?_
      refine v_aload_n X (dk D_Ex_ofTwo 99 rfl) rfl ?_
      refine v_dup X (dk D_Ex_ofTwo 100 rfl) rfl ?_
      refine v_getI X (dk D_Ex_ofTwo 101 rfl) F_Ex_77 rfl rfl (hS.lt (by decide)) ?_
      refine v_iload_n X (dk D_Ex_ofTwo 102 rfl) rfl ?_
      refine v_if_ne (tgt := 241) X (dk D_Ex_ofTwo 103 rfl) (by decide) (fun c234 => absurd hb0 c234) (fun _ => ?_)
      refine v_iconst (v := 1) X (dk D_Ex_ofTwo 104 rfl) (by decide) ?_
      refine v_goto (tgt := 242) X (dk D_Ex_ofTwo 105 rfl) (by decide) ?_
      refine v_ior X (dk D_Ex_ofTwo 107 rfl) ?_
      refine v_putI X (dk D_Ex_ofTwo 108 rfl) F_Ex_77 CK_Ex rfl rfl (hS.lt (by decide)) (by rw [hz]; cases bz <;> rfl) (by rw [hz]; cases bz <;> rfl) ?_
      refine v_iload_n X (dk D_Ex_ofTwo 109 rfl) rfl ?_
      refine v_if_ne (tgt := 254) X (dk D_Ex_ofTwo 110 rfl) (by decide) (fun c247 => absurd hb0 c247) (fun _ => ?_)
      refine v_iconst (v := 0) X (dk D_Ex_ofTwo 111 rfl) (by decide) ?_
      refine v_goto (tgt := 257) X (dk D_Ex_ofTwo 112 rfl) (by decide) ?_
      exact v_iret X hlk hrt (dk D_Ex_ofTwo 116 rfl) ⟨congrArg (fun z => some (Value.int z)) (by simp [ofT, hb0]), by show xI g 997 9 (gI g 997 9 ||| 1) = _; rw [hz]; cases bz <;> simp [hb0]⟩
    · refine v_gets (v := .ref 1048753) X (dk D_Ex_ofTwo 0 rfl) (Or.inl Z_Ex_149) X.sf.2.2.2.2.2.2.1.1 ?_
      refine v_aload_n X (dk D_Ex_ofTwo 1 rfl) rfl ?_
      refine v_invVU (C := "RescanMill$Operator") (x := ⟨"RescanMill$Operator", "ordinal", "()I"⟩) (M := M_En_ordinal) (b := 1048600 + 16) (As := []) (st := [.ref 1048753]) X (c_ordO l q (i := 16) (by decide)) (dk D_Ex_ofTwo 2 rfl) G_Ex_154 same_O sel_O I_En_ordinal rfl K_En_ordinal (X.sf.2.1 16 (by decide)).1 rfl rfl (Nat.le_of_ble_eq_true rfl) (Nat.le_of_ble_eq_true rfl) (Nat.le_of_ble_eq_true rfl) (Nat.le_of_ble_eq_true rfl) (Nat.le_of_ble_eq_true rfl) ⟨by decide, by decide, by decide +kernel⟩ ?_
      rintro v w ⟨rfl, hw⟩
      rw [hw]
      show Vv _ _ _ _ _ _ _ _ _ _ _ _ _ _ _ [.int (nI 16), .ref 1048753] (0, 0, g)
      refine v_siald (v := .int 20) X (dk D_Ex_ofTwo 3 rfl) X.sf.2.2.2.2.2.2.1.2 (vp_in_nI (show 16 < 23 by decide) (by decide)) (by rw [nI_clamp (by decide)]; rfl) ?_
      refine v_tableIn (tgt := 228) X (dk D_Ex_ofTwo 4 rfl) (by decide) (by decide) rfl (by decide) ?_
      refine v_aload_n X (dk D_Ex_ofTwo 99 rfl) rfl ?_
      refine v_dup X (dk D_Ex_ofTwo 100 rfl) rfl ?_
      refine v_getI X (dk D_Ex_ofTwo 101 rfl) F_Ex_77 rfl rfl (hS.lt (by decide)) ?_
      refine v_iload_n X (dk D_Ex_ofTwo 102 rfl) rfl ?_
      refine v_if_ne (tgt := 241) X (dk D_Ex_ofTwo 103 rfl) (by decide) (fun _ => ?_) (fun c234 => absurd c234 hb0)
      refine v_iconst (v := 0) X (dk D_Ex_ofTwo 106 rfl) (by decide) ?_
      refine v_ior X (dk D_Ex_ofTwo 107 rfl) ?_
      refine v_putI X (dk D_Ex_ofTwo 108 rfl) F_Ex_77 CK_Ex rfl rfl (hS.lt (by decide)) (by rw [hz]; cases bz <;> rfl) (by rw [hz]; cases bz <;> rfl) ?_
      refine v_iload_n X (dk D_Ex_ofTwo 109 rfl) rfl ?_
      refine v_if_ne (tgt := 254) X (dk D_Ex_ofTwo 110 rfl) (by decide) (fun _ => ?_) (fun c247 => absurd c247 hb0)
      refine v_iload_n X (dk D_Ex_ofTwo 113 rfl) rfl ?_
      refine v_iload_n X (dk D_Ex_ofTwo 114 rfl) rfl ?_
      refine v_idiv X (dk D_Ex_ofTwo 115 rfl) hb0 ?_
      exact v_iret X hlk hrt (dk D_Ex_ofTwo 116 rfl) ⟨congrArg (fun z => some (Value.int z)) (by simp [ofT, hb0]), by show xI g 997 9 (gI g 997 9 ||| 0) = _; rw [hz]; cases bz <;> simp [hb0]⟩
  · by_cases hb0 : b = 0
    · refine v_gets (v := .ref 1048753) X (dk D_Ex_ofTwo 0 rfl) (Or.inl Z_Ex_149) X.sf.2.2.2.2.2.2.1.1 ?_
      refine v_aload_n X (dk D_Ex_ofTwo 1 rfl) rfl ?_
      refine v_invVU (C := "RescanMill$Operator") (x := ⟨"RescanMill$Operator", "ordinal", "()I"⟩) (M := M_En_ordinal) (b := 1048600 + 17) (As := []) (st := [.ref 1048753]) X (c_ordO l q (i := 17) (by decide)) (dk D_Ex_ofTwo 2 rfl) G_Ex_154 same_O sel_O I_En_ordinal rfl K_En_ordinal (X.sf.2.1 17 (by decide)).1 rfl rfl (Nat.le_of_ble_eq_true rfl) (Nat.le_of_ble_eq_true rfl) (Nat.le_of_ble_eq_true rfl) (Nat.le_of_ble_eq_true rfl) (Nat.le_of_ble_eq_true rfl) ⟨by decide, by decide, by decide +kernel⟩ ?_
      rintro v w ⟨rfl, hw⟩
      rw [hw]
      show Vv _ _ _ _ _ _ _ _ _ _ _ _ _ _ _ [.int (nI 17), .ref 1048753] (0, 0, g)
      refine v_siald (v := .int 21) X (dk D_Ex_ofTwo 3 rfl) X.sf.2.2.2.2.2.2.1.2 (vp_in_nI (show 17 < 23 by decide) (by decide)) (by rw [nI_clamp (by decide)]; rfl) ?_
      refine v_tableIn (tgt := 258) X (dk D_Ex_ofTwo 4 rfl) (by decide) (by decide) rfl (by decide) ?_
      refine v_aload_n X (dk D_Ex_ofTwo 117 rfl) rfl ?_
      refine v_dup X (dk D_Ex_ofTwo 118 rfl) rfl ?_
      refine v_getI X (dk D_Ex_ofTwo 119 rfl) F_Ex_77 rfl rfl (hS.lt (by decide)) ?_
      refine v_iload_n X (dk D_Ex_ofTwo 120 rfl) rfl ?_
      refine v_if_ne (tgt := 271) X (dk D_Ex_ofTwo 121 rfl) (by decide) (fun c264 => absurd hb0 c264) (fun _ => ?_)
      refine v_iconst (v := 1) X (dk D_Ex_ofTwo 122 rfl) (by decide) ?_
      refine v_goto (tgt := 272) X (dk D_Ex_ofTwo 123 rfl) (by decide) ?_
      refine v_ior X (dk D_Ex_ofTwo 125 rfl) ?_
      refine v_putI X (dk D_Ex_ofTwo 126 rfl) F_Ex_77 CK_Ex rfl rfl (hS.lt (by decide)) (by rw [hz]; cases bz <;> rfl) (by rw [hz]; cases bz <;> rfl) ?_
      refine v_iload_n X (dk D_Ex_ofTwo 127 rfl) rfl ?_
      refine v_if_ne (tgt := 284) X (dk D_Ex_ofTwo 128 rfl) (by decide) (fun c277 => absurd hb0 c277) (fun _ => ?_)
      refine v_iconst (v := 0) X (dk D_Ex_ofTwo 129 rfl) (by decide) ?_
      refine v_goto (tgt := 287) X (dk D_Ex_ofTwo 130 rfl) (by decide) ?_
      exact v_iret X hlk hrt (dk D_Ex_ofTwo 134 rfl) ⟨congrArg (fun z => some (Value.int z)) (by simp [ofT, hb0]), by show xI g 997 9 (gI g 997 9 ||| 1) = _; rw [hz]; cases bz <;> simp [hb0]⟩
    · refine v_gets (v := .ref 1048753) X (dk D_Ex_ofTwo 0 rfl) (Or.inl Z_Ex_149) X.sf.2.2.2.2.2.2.1.1 ?_
      refine v_aload_n X (dk D_Ex_ofTwo 1 rfl) rfl ?_
      refine v_invVU (C := "RescanMill$Operator") (x := ⟨"RescanMill$Operator", "ordinal", "()I"⟩) (M := M_En_ordinal) (b := 1048600 + 17) (As := []) (st := [.ref 1048753]) X (c_ordO l q (i := 17) (by decide)) (dk D_Ex_ofTwo 2 rfl) G_Ex_154 same_O sel_O I_En_ordinal rfl K_En_ordinal (X.sf.2.1 17 (by decide)).1 rfl rfl (Nat.le_of_ble_eq_true rfl) (Nat.le_of_ble_eq_true rfl) (Nat.le_of_ble_eq_true rfl) (Nat.le_of_ble_eq_true rfl) (Nat.le_of_ble_eq_true rfl) ⟨by decide, by decide, by decide +kernel⟩ ?_
      rintro v w ⟨rfl, hw⟩
      rw [hw]
      show Vv _ _ _ _ _ _ _ _ _ _ _ _ _ _ _ [.int (nI 17), .ref 1048753] (0, 0, g)
      refine v_siald (v := .int 21) X (dk D_Ex_ofTwo 3 rfl) X.sf.2.2.2.2.2.2.1.2 (vp_in_nI (show 17 < 23 by decide) (by decide)) (by rw [nI_clamp (by decide)]; rfl) ?_
      refine v_tableIn (tgt := 258) X (dk D_Ex_ofTwo 4 rfl) (by decide) (by decide) rfl (by decide) ?_
      refine v_aload_n X (dk D_Ex_ofTwo 117 rfl) rfl ?_
      refine v_dup X (dk D_Ex_ofTwo 118 rfl) rfl ?_
      refine v_getI X (dk D_Ex_ofTwo 119 rfl) F_Ex_77 rfl rfl (hS.lt (by decide)) ?_
      refine v_iload_n X (dk D_Ex_ofTwo 120 rfl) rfl ?_
      refine v_if_ne (tgt := 271) X (dk D_Ex_ofTwo 121 rfl) (by decide) (fun _ => ?_) (fun c264 => absurd c264 hb0)
      refine v_iconst (v := 0) X (dk D_Ex_ofTwo 124 rfl) (by decide) ?_
      refine v_ior X (dk D_Ex_ofTwo 125 rfl) ?_
      refine v_putI X (dk D_Ex_ofTwo 126 rfl) F_Ex_77 CK_Ex rfl rfl (hS.lt (by decide)) (by rw [hz]; cases bz <;> rfl) (by rw [hz]; cases bz <;> rfl) ?_
      refine v_iload_n X (dk D_Ex_ofTwo 127 rfl) rfl ?_
      refine v_if_ne (tgt := 284) X (dk D_Ex_ofTwo 128 rfl) (by decide) (fun _ => ?_) (fun c277 => absurd c277 hb0)
      refine v_iload_n X (dk D_Ex_ofTwo 131 rfl) rfl ?_
      refine v_iload_n X (dk D_Ex_ofTwo 132 rfl) rfl ?_
      refine v_irem X (dk D_Ex_ofTwo 133 rfl) hb0 ?_
      exact v_iret X hlk hrt (dk D_Ex_ofTwo 134 rfl) ⟨congrArg (fun z => some (Value.int z)) (by simp [ofT, hb0]), by show xI g 997 9 (gI g 997 9 ||| 0) = _; rw [hz]; cases bz <;> simp [hb0]⟩
