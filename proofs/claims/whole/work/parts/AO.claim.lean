/-! the law: its beginning, and the claim -/
def nst_P : List Nat := [60, 112, 183, 186, 192, 268, 282, 547, 554, 753, 754, 813, 267, 182, 289]
theorem nst_e : nstT = nst_P.filterMap (fun i => tables_1[i]?) := by decide +kernel
theorem nst_in : ∀ w ∈ nstT, w ∈ tables_1 := fun w hw => by
  rw [nst_e] at hw
  obtain ⟨i, -, hi⟩ := List.mem_filterMap.mp hw
  exact List.mem_of_getElem? hi
theorem nst_now {A : Array Value} {s : State} (ht : ∀ w ∈ tables_1, w.before A s = true) : ∀ w ∈ nstT, va_Nw w s := fun w hw => by
  have h0 := ht w (nst_in w hw)
  rcases nst_ok w hw with ⟨a, i, b, n, d, h, rfl⟩ | ⟨a, i, x, h, rfl⟩ | ⟨C, rfl⟩
  · exact va_Nw.of rfl h0
  · exact va_Nw.of rfl h0
  · exact va_AO.of h0
theorem WI_Mi : Cond.instantiable "RescanMill" 10 ∈ tbG := tb_in (i := 22) (by decide +kernel) (by decide +kernel)
theorem WI_Rf : Cond.instantiable "RescanMillModel" 47 ∈ tbG := tb_in (i := 914) (by decide +kernel) (by decide +kernel)
theorem WN_Mi : Cond.initialized "RescanMill" ∈ tbG := tb_in (i := 1) (by decide +kernel) (by decide +kernel)
theorem WN_Rf : Cond.initialized "RescanMillModel" ∈ tbG := tb_in (i := 12) (by decide +kernel) (by decide +kernel)
theorem WL_Lw_7 : Cond.classLink "RescanMillLaw" 7 "RescanMill" ∈ tbG := tb_in (i := 21) (by decide +kernel) (by decide +kernel)
theorem WL_Lw_10 : Cond.classLink "RescanMillLaw" 10 "RescanMillModel" ∈ tbG := tb_in (i := 913) (by decide +kernel) (by decide +kernel)
theorem aT_i {A : Array Value} {s : State} (h : (Cond.arrayClass .int).before A s = true) : ∃ cA, ArrOfT s cA .int ∧ va_RA s cA .int := by
  obtain ⟨cA, kA, comp, h1, h2, h3⟩ := Cond.arrayClass_spec h
  exact ⟨cA, fun n z => ⟨fun k h => (by cases h), kA, h2, comp, h3⟩, h1⟩
theorem aT_b {A : Array Value} {s : State} (h : (Cond.arrayClass .byte).before A s = true) : ∃ cA, ArrOfT s cA .byte ∧ va_RA s cA .byte := by
  obtain ⟨cA, kA, comp, h1, h2, h3⟩ := Cond.arrayClass_spec h
  exact ⟨cA, fun n z => ⟨fun k h => (by cases h), kA, h2, comp, h3⟩, h1⟩
theorem aT_z {A : Array Value} {s : State} (h : (Cond.arrayClass .boolean).before A s = true) : ∃ cA, ArrOfT s cA .boolean ∧ va_RA s cA .boolean := by
  obtain ⟨cA, kA, comp, h1, h2, h3⟩ := Cond.arrayClass_spec h
  exact ⟨cA, fun n z => ⟨fun k h => (by cases h), kA, h2, comp, h3⟩, h1⟩
theorem aT_o {A : Array Value} {s : State} {C : String} (h : (Cond.arrayOver (.object C)).before A s = true) : ∃ cA, ArrOfT s cA (.object C) ∧ va_RA s cA (.object C) := by
  obtain ⟨comp, cA, kA, h1, -, h2, h3, h4⟩ := Cond.arrayOver_spec h
  exact ⟨cA, fun n z => ⟨fun k h => (by cases h), kA, h2, comp, h3⟩, kA, comp, h2, h3, h1, h4⟩
def g00 : mu_T := (0, fun _ _ => none, fun _ _ => 0, fun _ _ => none)
set_option maxHeartbeats 4000000 in
set_option maxRecDepth 100000 in
theorem whole_start {p : Program} {e : Env} {s : State} {m : MethodId} {below : List Frame} {meth : Method} {c : Code} (l : Launch) {b L : Nat} {xs : Nat → Int32} (hL : L ≤ 2048) (C0 : lw_At p s m meth c b L xs) : W p l e room_1 s m #[Value.ref b] below meth c s.heap [] 0 0 (lw_Z below #[Value.ref b] s) (entryFrame m ([Value.ref b] : List Value).toArray 4) := by
  obtain ⟨hx, hb, hr, hml, hown, hts, hX, hbl, hlk, hgv⟩ := id C0
  have htG : ∀ w ∈ tbG, w.before #[Value.ref b] s = true := fun w hw => hts w (List.mem_filter.mp hw).1
  obtain ⟨c0, i0, hK0⟩ := u_known (C := "RescanMill") (T := T_Mi) (N := 10) (n := 10) htG in_Mi (htG _ WI_Mi)
  obtain ⟨c1, i1, hK1⟩ := u_known (C := "RescanMill$Bytes") (T := T_By) (N := 3) (n := 3) htG in_By (htG _ WI_By)
  obtain ⟨c2, i2, hK2⟩ := u_known (C := "RescanMill$Calls") (T := T_Ca) (N := 9) (n := 9) htG in_Ca (htG _ WI_Ca)
  obtain ⟨c3, i3, hK3⟩ := u_known (C := "RescanMill$Cells") (T := T_Ce) (N := 5) (n := 5) htG in_Ce (htG _ WI_Ce)
  obtain ⟨c4, i4, hK4⟩ := u_known (C := "RescanMill$Chain") (T := T_Ch) (N := 3) (n := 3) htG in_Ch (htG _ WI_Ch)
  obtain ⟨c5, i5, hK5⟩ := u_known (C := "RescanMill$Diversions") (T := T_Di) (N := 3) (n := 3) htG in_Di (htG _ WI_Di)
  obtain ⟨c6, i6, hK6⟩ := u_known (C := "RescanMill$Expression") (T := T_Ex) (N := 10) (n := 10) htG in_Ex (htG _ WI_Ex)
  obtain ⟨c7, i7, hK7⟩ := u_known (C := "RescanMill$Input") (T := T_In) (N := 12) (n := 12) htG in_In (htG _ WI_In)
  obtain ⟨c8, i8, hK8⟩ := u_known (C := "RescanMill$Meaning") (T := T_Me) (N := 5) (n := 5) htG in_Me (htG _ WI_Me)
  obtain ⟨c9, i9, hK9⟩ := u_known (C := "RescanMill$Meanings") (T := T_Ms) (N := 6) (n := 6) htG in_Ms (htG _ WI_Ms)
  obtain ⟨c10, i10, hK10⟩ := u_known (C := "RescanMillModel") (T := T_Rf) (N := 47) (n := 47) htG in_Rf (htG _ WI_Rf)
  obtain ⟨a0, hA0⟩ := aT_i (htG _ WA_int)
  obtain ⟨a1, hA1⟩ := aT_b (htG _ WA_byte)
  obtain ⟨a2, hA2⟩ := aT_z (htG _ WA_boolean)
  obtain ⟨a3, hA3⟩ := aT_o (hts _ (List.mem_append_right _ (nst_in _ WO_Ch)))
  obtain ⟨a4, hA4⟩ := aT_o (hts _ (List.mem_append_right _ (nst_in _ WO_Me)))
  obtain ⟨a5, hA5⟩ := aT_o (hts _ (List.mem_append_right _ (nst_in _ WO_Op)))
  obtain ⟨q, hq⟩ : ∃ q : ev_T, q = (s.heap.size, ((fun k => match k with | 0 => c0 | 1 => c1 | 2 => c2 | 3 => c3 | 4 => c4 | 5 => c5 | 6 => c6 | 7 => c7 | 8 => c8 | 9 => c9 | _ => c10), (fun k => match k with | 0 => i0 | 1 => i1 | 2 => i2 | 3 => i3 | 4 => i4 | 5 => i5 | 6 => i6 | 7 => i7 | 8 => i8 | 9 => i9 | _ => i10)), (fun k => match k with | 0 => a0 | 1 => a1 | 2 => a2 | 3 => a3 | 4 => a4 | _ => a5), fun z => cvT #[Value.ref b] s (tmC z)) := ⟨_, rfl⟩
  have hq1 : q.1 = s.heap.size := by rw [hq]
  have hq4 : ∀ z, q.2.2.2 z = cvT #[Value.ref b] s (tmC z) := fun z => by rw [hq]
  have hKc : va_K q.2.1 vwCl (ev_tys q) s := by
    refine ⟨fun k z hz => ?_, fun k z hz => ?_⟩
    · rw [hq]
      match k, hz with
      | 0, hz => cases hz; exact hK0
      | 1, hz => cases hz; exact hK1
      | 2, hz => cases hz; exact hK2
      | 3, hz => cases hz; exact hK3
      | 4, hz => cases hz; exact hK4
      | 5, hz => cases hz; exact hK5
      | 6, hz => cases hz; exact hK6
      | 7, hz => cases hz; exact hK7
      | 8, hz => cases hz; exact hK8
      | 9, hz => cases hz; exact hK9
      | 10, hz => cases hz; exact hK10
      | k + 11, hz => simp [vwCl] at hz
    · rw [hq] at hz
      match k, hz with
      | 0, hz => cases hz; exact hA0
      | 1, hz => cases hz; exact hA1
      | 2, hz => cases hz; exact hA2
      | 3, hz => cases hz; exact hA3
      | 4, hz => cases hz; exact hA4
      | 5, hz => cases hz; exact hA5
      | k + 6, hz => simp [ev_tys, tyT] at hz
  have hSF : SF q s s.heap := SF_of (A := #[Value.ref b]) (by rw [hq1]; exact Nat.le_refl _) (fun z _ => hq4 z) (fun w hw => flat_of_before _ hgv w (List.mem_append_right _ hw)) (fun w hw => hts w (List.mem_append_right _ hw))
  have hNst : ∀ w ∈ nstT, va_Nw w s := nst_now (fun w hw => hts w (List.mem_append_right _ hw))
  have X : Cx p s m #[Value.ref b] c code 4 "RescanMillLaw" q := ⟨hx, hb, hml, hown, htG, ⟨hKc, hNst, hSF⟩, by rw [hq1]; exact Nat.le_refl _⟩
  have eb : ev_ad q 1048755 = b := by
    rw [ev_hi (by decide), hq4]
    exact cvT_of (t := .arg 0) rfl
  have hT : va_T .int (ev_ad q 1048755) L (fun j => .int (xs j)) (fun a => q.1 ≤ a) s s.heap := by
    rw [eb]
    obtain ⟨scr, h1, h2, h3, h4, h5⟩ := hX
    exact ⟨scr, h1, h2, h3, by rw [h4]; exact Nat.le_refl _, by rw [h4], h5, fun z => by have : q.1 ≤ b := z; omega⟩
  have key : Vv p l e room_1 s m #[Value.ref b] below meth c 4 q (lw_Z below #[Value.ref b] s) 0 [some (.ref 1048755), none, none, none] [] (600000, 7302250, g00) := by
    refine v_new (ci := 0) (T := T_Mi) (C := "RescanMill") X (dk D_Lw 0 rfl) rfl WL_Lw_7 WI_Mi WN_Mi in_Mi CK_Mi (by decide) rfl (by decide) (by decide) (by decide) (fun _ => ?_)
    show Vv p l e room_1 s m #[Value.ref b] below meth c 4 q (lw_Z below #[Value.ref b] s) 3 [some (.ref 1048755), none, none, none] [.ref 0] (599999, 7302240, (1, g00.2))
    refine v_dup X (dk D_Lw 1 rfl) rfl ?_
    refine v_invI (u := (599999, 7302240, (1, g00.2))) (b := 0) (As := []) (st := [.ref 0]) X (k_Mi_init l q (g := (1, g00.2)) rfl (fun j _ k => ⟨rfl, rfl, rfl⟩)) (dk D_Lw 2 rfl) G_Lw_9 K_Mi_init rfl rfl I_Mi_init (by decide) rfl rfl (Nat.le_of_ble_eq_true rfl) (Nat.le_of_ble_eq_true rfl) (Nat.le_of_ble_eq_true rfl) (Nat.le_of_ble_eq_true rfl) (Nat.le_of_ble_eq_true rfl) ?_
    rintro v w1 ⟨rfl, hm⟩
    have e1 : gN w1.2.2 = 1003 := hm.1
    have z1 : ∀ j, 1003 ≤ j → zr w1.2.2 j := fun j hj k => hm.2.1 j (Or.inr hj) k
    show Vv p l e room_1 s m #[Value.ref b] below meth c 4 q (lw_Z below #[Value.ref b] s) 7 [some (.ref 1048755), none, none, none] [.ref 0] (598997, 7002132, w1.2.2)
    refine v_astore_n (lb := [some (.ref 1048755), some (.ref 0), none, none]) X (dk D_Lw 3 rfl) (by decide) rfl ?_
    refine v_new (ci := 10) (T := T_Rf) (C := "RescanMillModel") X (dk D_Lw 4 rfl) rfl WL_Lw_10 WI_Rf WN_Rf in_Rf CK_Rf (by decide) (by rw [e1]; rfl) (by rw [e1]; decide) (Nat.le_of_ble_eq_true rfl) (Nat.le_of_ble_eq_true rfl) (fun _ => ?_)
    rw [e1]
    show Vv p l e room_1 s m #[Value.ref b] below meth c 4 q (lw_Z below #[Value.ref b] s) 11 [some (.ref 1048755), some (.ref 0), none, none] [.ref 1003] (598996, 7002085, (1004, w1.2.2.2))
    refine v_dup X (dk D_Lw 5 rfl) rfl ?_
    refine v_invI (u := (598996, 7002085, (1004, w1.2.2.2))) (b := 1003) (As := []) (st := [.ref 1003]) X (k_Rf_init l q (g := (1004, w1.2.2.2)) rfl (fun j hj k => z1 j hj k)) (dk D_Lw 6 rfl) G_Lw_12 K_Rf_init rfl rfl I_Rf_init (by show 1003 < 1004; decide) rfl rfl (Nat.le_of_ble_eq_true rfl) (Nat.le_of_ble_eq_true rfl) (Nat.le_of_ble_eq_true rfl) (Nat.le_of_ble_eq_true rfl) (Nat.le_of_ble_eq_true rfl) ?_
    rintro v w2 ⟨rfl, hm2⟩
    have hI : LI w2.2.2 [] [] := by
      refine LI_start (fun j hj k => ?_) hm2.1 (fun j hj => ?_)
      · obtain ⟨p1, p2, p3⟩ := hm2.2.1 j (Or.inr hj) k
        obtain ⟨q1, q2, q3⟩ := z1 j (by omega) k
        exact ⟨p1.trans q1, p2.trans q2, p3.trans q3⟩
      · by_cases h3 : j < 1003
        · intro k
          obtain ⟨p1, p2, p3⟩ := hm2.2.1 j (Or.inl h3) k
          obtain ⟨q1, q2, q3⟩ := hm.2.2 j (Nat.zero_le _) h3 k
          exact ⟨p1.trans q1, p2.trans q2, p3.trans q3⟩
        · exact hm2.2.2 j (by omega) hj
    show Vv p l e room_1 s m #[Value.ref b] below meth c 4 q (lw_Z below #[Value.ref b] s) 15 [some (.ref 1048755), some (.ref 0), none, none] [.ref 1003] (_, _, w2.2.2)
    refine v_astore_n (lb := [some (.ref 1048755), some (.ref 0), some (.ref 1003), none]) X (dk D_Lw 7 rfl) (by decide) rfl ?_
    refine v_iconst (v := nI 0) X (dk D_Lw 8 rfl) (by decide) ?_
    refine v_istore_n (lb := [some (.ref 1048755), some (.ref 0), some (.ref 1003), some (.int (nI 0))]) X (dk D_Lw 9 rfl) (by decide) rfl ?_
    exact law_loop X hq1 hr hlk hT hL (L + 1) 0 w2.2.2 [] [] (by omega) (Nat.zero_le _) hI
  have hl := lv_entry ([.ref b]) (n := 4) (Nat.le_of_ble_eq_true rfl)
  rw [lg_entry_eq]
  refine key _ s.heap [] 0 0 ⟨hl.1, rfl, hl.2.1, fun k v hk => ?_⟩ ⟨by rw [hq1]; rfl, fun k z hz => by have e0 : mm_ws q (600000, 7302250, g00) = [] := rfl; rw [e0] at hz; simp at hz, by decide, fun _ _ _ _ => rfl, fun _ _ _ => ⟨rfl, rfl, rfl⟩⟩ va_S.rf (by decide) (by decide)
  match k, hk with
  | 0, hk =>
    cases hk
    show _ = some (Slot.val (.ref (ev_ad q 1048755)))
    rw [eb]
    exact hl.2.2 (0, .ref b) List.mem_cons_self
  | 1, hk => cases hk
  | 2, hk => cases hk
  | 3, hk => cases hk
  | k + 4, hk => simp at hk
set_option maxHeartbeats 4000000 in
theorem lw_walk (l : Launch) (b : Addr) (xs : List Int32) : MetFree l x (headSpec (Jvm.Cond.code x code maxLocals ret :: tables_1) room_1) (lw_P b xs) (fun _ _ _ _ _ => True) lw_Q := by
  refine MetFree.of_bodyS (code := code) (maxLocals := maxLocals) (ret := ret) (by decide) ?_ ?_
  · intro args s m h hn
    obtain ⟨meth, c, h1, h2, h3, h4, h5, h6, -, -⟩ := Cond.code_spec hn (atoms_spec (ws := Jvm.Cond.code x code maxLocals ret :: tables_1) h _ List.mem_cons_self)
    exact ⟨meth, c, h1, h2, h3, h4, h5, h6⟩
  · intro p e s m args below meth c s₁ B hml0 hP _
    obtain ⟨rfl, hx, hbd, hgv⟩ := hP
    obtain ⟨scr, harrAt, hlist, hof, hsmall⟩ := hx
    obtain ⟨hcb, hkn, -, -⟩ := State.arrayAt?_spec harrAt
    have hown : s.vm.findClass R_law = some m.cls := findClass_of_methodNamed B.named
    have hts0 : ∀ c ∈ (Jvm.Cond.code x code maxLocals ret :: tables_1), c.before #[Value.ref b] s = true := atoms_spec (ws := Jvm.Cond.code x code maxLocals ret :: tables_1) B.pre
    have hts : ∀ w ∈ lw_tbl, w.before #[Value.ref b] s = true := k2_hts_sels lw_privs (fun w hw => hts0 w (List.mem_cons_of_mem _ hw)) lw_privs_ok
    have hml : c.maxLocals = 4 := B.maxLocals_eq (hts0 _ List.mem_cons_self)
    have X₀ : Stand p l e room_1 s m #[Value.ref b] below meth c s₁ [] 0 0 := Stand.of_body B
    have hh0 : s₁.heap = s.heap := by rw [B.state]; rfl
    have hsz : scr.slots.size = xs.length := by rw [← Array.length_toList, hlist, List.length_map]
    have hval : ∀ j : Nat, j < xs.length → scr.slots[j]? = some (.int (xs.getD j 0)) := fun j hj => by
      rw [← Array.getElem?_toList, hlist]
      simp [hj]
    have hbl : b < s.heap.size := (Array.getElem?_eq_some_iff.mp hcb).1
    have hX : va_X b xs.length (fun j => xs.getD j 0) s s.heap := ⟨scr, hcb, hof, hkn, hsz, hval⟩
    have K : W p l e room_1 s m #[Value.ref b] below meth c s₁.heap [] 0 0 (lw_Z below #[Value.ref b] s) (entryFrame m ([Value.ref b] : List Value).toArray 4) := by
      rw [hh0]
      exact whole_start l hbd ⟨B.exec, B.bytes, B.returns, hml, hown, hts, hX, hbl, B.notSynchronized, hgv⟩
    obtain ⟨t, a1, o, b1, b2, b3⟩ := K s₁ rfl X₀
    exact ⟨t, o, a1, b1, b2, b3⟩
theorem lw_pre_spec {args : Array Value} {s : State} (h : (Jvm.Cond.and given_1 narrow_1).before args s = true) (hr : rest_1_c.before args s = true) : ∃ (b : Addr) (xs : List Int32), lw_P b xs args s := by
  have hs := flat_of_before _ h
  have hq := flat_of_before _ hr
  have hc : (Cond.count 1).before args s = true := hs _ (by decide +kernel)
  have harr : (Cond.arrayOf (.arg 0) .int).before args s = true := hs _ (by decide +kernel)
  have hle : (Cond.le (.length (.arg 0)) (.int 2048)).before args s = true := hs _ (by decide +kernel)
  have hlen : (Cond.isInt (.length (.arg 0))).before args s = true := hq _ (by decide +kernel)
  have hall : (Cond.all (.arg 0) (.isInt (.elem (.arg 0) (.index 0)))).before args s = true := hq _ (by decide +kernel)
  obtain ⟨b, xs, hb, hx⟩ := State.ints_of_pre rfl harr hlen hall
  have hsm : xs.length < 2 ^ 31 := hx.choose_spec.2.2.2
  have hev : (Term.length (.arg 0)).eval args s none [] s = some (.int xs.length.toInt32) := hx.length_eval hb
  have hv := Cond.le_ints hev (show (Term.int 2048).eval args s none [] s = some (.int 2048) from rfl)
  have hd : xs.length.toInt32 ≤ 2048 := by
    simpa [Cond.before, Cond.holds, hv] using hle
  have hN : xs.length ≤ 2048 := (Int32.ofNat_le_ofNat hsm (by decide)).mp (show Int32.ofNat xs.length ≤ Int32.ofNat 2048 from hd)
  exact ⟨b, xs, Cond.one_arg hc (show args[0]? = some (.ref b) from hb), hx, hN, h⟩
theorem lw_comes (l : Launch) : Comes l x (Jvm.Cond.code x code maxLocals ret :: tables_1) room_1 (fun tb e args s => Calls_1 tb e args s ∧ rest_1 tb e args s ∧ Pre_1 tb e args s)
    (fun _ _ args s o t => lw_Q args s o t) := by
  intro p e ha hc hk s m args below hf hfit hheap happ hpre
  obtain ⟨b, xs, hP⟩ := lw_pre_spec hpre.2.2 hpre.2.1
  obtain ⟨k, o, h1, h2, h3, hQ⟩ := lw_walk l b xs p e ha hc hk s m args below hf ((Spec.applies_iff_loose hf).mp happ).1 hP trivial
  exact ⟨k, o, h1, h2, h3, hQ⟩
theorem lw_frame {s t : State} {o : Outcome} {args : Array Value} (h : Framed s o t [] 600000 7302250) :
    Framed s o t (fieldLocs frame_1_writes args s ++ arrayLocs frame_1_arrays args s ++ staticLocs frame_1_statics s) 600000 7302250 := h
theorem lw_limb (L : Cond) (hL : ∀ (args : Array Value) (s t : State), L.after args s (.returned (some (.int 1))) t = true) :
    ArmFor flags0 classFile x code maxLocals ret World_1 tables_1 room_1 Calls_1 rest_1 Pre_1
      (fun tb e a s o t => postC L tb e a s o t ∧ Framed s o t (fieldLocs frame_1_writes a s ++ arrayLocs frame_1_arrays a s ++ staticLocs frame_1_statics s) 600000 7302250) := by
  intro l _ _ _ p e ha hc hk s m args below hf hfit hheap happ hpre
  obtain ⟨k, o, h1, h2, h3, rfl, hF⟩ := lw_comes l p e ha hc hk s m args below hf hfit hheap happ hpre
  exact ⟨k, _, h1, h2, h3, hL args s _, lw_frame hF⟩
theorem i_vc : Claimed_1_1 ∧ Claimed_1_2 := ⟨lw_limb limb_1_1 (fun args s t => by simp [limb_1_1, Cond.after, Cond.holds, Cond.value]), lw_limb limb_1_2 (fun args s t => Cond.after_iff.mpr (by
  first | (rw [show limb_1_2 = Cond.eq .result (.int 1) from rfl, Cond.eq_ints (x := 1) (y := 1) rfl rfl]; simp; done) | (simp [limb_1_2, Cond.value, Term.eval]; done)))⟩

