/-! the law: its walk -/
def L_Lw : List (Nat × Instr × Nat) := [(0, .new 7, 3), (3, .dup, 1), (4, .invokespecial 9, 3), (7, .astore_n 1, 1), (8, .new 10, 3), (11, .dup, 1), (12, .invokespecial 12, 3), (15, .astore_n 2, 1), (16, .iconst 0, 1), (17, .istore_n 3, 1), (18, .iload_n 3, 1), (19, .aload_n 0, 1), (20, .arraylength, 1), (21, .iconst 4, 1), (22, .isub, 1), (23, .if_icmp .gt 251, 3), (26, .aload_n 0, 1), (27, .iload_n 3, 1), (28, .iaload, 1), (29, .bipush 7, 2), (31, .iand, 1), (32, .tableswitch 236 0 6 #[44, 107, 140, 153, 176, 199, 212], 44), (76, .aload_n 1, 1), (77, .aload_n 0, 1), (78, .iload_n 3, 1), (79, .iconst 1, 1), (80, .iadd, 1), (81, .iaload, 1), (82, .i2l, 1), (83, .bipush 32, 2), (85, .lshl, 1), (86, .aload_n 0, 1), (87, .iload_n 3, 1), (88, .iconst 2, 1), (89, .iadd, 1), (90, .iaload, 1), (91, .i2l, 1), (92, .ldc2_w 13, 3), (95, .land, 1), (96, .lor, 1), (97, .aload_n 0, 1), (98, .iload_n 3, 1), (99, .iconst 3, 1), (100, .iadd, 1), (101, .iaload, 1), (102, .invokevirtual 15, 3), (105, .aload_n 2, 1), (106, .aload_n 0, 1), (107, .iload_n 3, 1), (108, .iconst 1, 1), (109, .iadd, 1), (110, .iaload, 1), (111, .i2l, 1), (112, .bipush 32, 2), (114, .lshl, 1), (115, .aload_n 0, 1), (116, .iload_n 3, 1), (117, .iconst 2, 1), (118, .iadd, 1), (119, .iaload, 1), (120, .i2l, 1), (121, .ldc2_w 13, 3), (124, .land, 1), (125, .lor, 1), (126, .aload_n 0, 1), (127, .iload_n 3, 1), (128, .iconst 3, 1), (129, .iadd, 1), (130, .iaload, 1), (131, .invokevirtual 19, 3), (134, .if_icmp .eq 134, 3), (137, .iconst 0, 1), (138, .ireturn, 1), (139, .aload_n 1, 1), (140, .aload_n 0, 1), (141, .iload_n 3, 1), (142, .iconst 1, 1), (143, .iadd, 1), (144, .iaload, 1), (145, .aload_n 0, 1), (146, .iload_n 3, 1), (147, .iconst 2, 1), (148, .iadd, 1), (149, .iaload, 1), (150, .invokevirtual 20, 3), (153, .aload_n 2, 1), (154, .aload_n 0, 1), (155, .iload_n 3, 1), (156, .iconst 1, 1), (157, .iadd, 1), (158, .iaload, 1), (159, .aload_n 0, 1), (160, .iload_n 3, 1), (161, .iconst 2, 1), (162, .iadd, 1), (163, .iaload, 1), (164, .invokevirtual 24, 3), (167, .if_icmp .eq 101, 3), (170, .iconst 0, 1), (171, .ireturn, 1), (172, .aload_n 1, 1), (173, .invokevirtual 25, 3), (176, .aload_n 2, 1), (177, .invokevirtual 29, 3), (180, .if_icmp .eq 88, 3), (183, .iconst 0, 1), (184, .ireturn, 1), (185, .aload_n 1, 1), (186, .aload_n 0, 1), (187, .iload_n 3, 1), (188, .iconst 1, 1), (189, .iadd, 1), (190, .iaload, 1), (191, .invokevirtual 30, 3), (194, .aload_n 2, 1), (195, .aload_n 0, 1), (196, .iload_n 3, 1), (197, .iconst 1, 1), (198, .iadd, 1), (199, .iaload, 1), (200, .invokevirtual 34, 3), (203, .if_icmp .eq 65, 3), (206, .iconst 0, 1), (207, .ireturn, 1), (208, .aload_n 1, 1), (209, .aload_n 0, 1), (210, .iload_n 3, 1), (211, .iconst 1, 1), (212, .iadd, 1), (213, .iaload, 1), (214, .invokevirtual 35, 3), (217, .aload_n 2, 1), (218, .aload_n 0, 1), (219, .iload_n 3, 1), (220, .iconst 1, 1), (221, .iadd, 1), (222, .iaload, 1), (223, .invokevirtual 38, 3), (226, .if_icmp .eq 42, 3), (229, .iconst 0, 1), (230, .ireturn, 1), (231, .aload_n 1, 1), (232, .invokevirtual 39, 3), (235, .aload_n 2, 1), (236, .invokevirtual 42, 3), (239, .if_icmp .eq 29, 3), (242, .iconst 0, 1), (243, .ireturn, 1), (244, .aload_n 1, 1), (245, .aload_n 0, 1), (246, .iload_n 3, 1), (247, .iconst 1, 1), (248, .iadd, 1), (249, .iaload, 1), (250, .invokevirtual 43, 3), (253, .aload_n 2, 1), (254, .aload_n 0, 1), (255, .iload_n 3, 1), (256, .iconst 1, 1), (257, .iadd, 1), (258, .iaload, 1), (259, .invokevirtual 47, 3), (262, .lcmp, 1), (263, .ifCond .eq 5, 3), (266, .iconst 0, 1), (267, .ireturn, 1), (268, .iinc 3 4, 3), (271, .goto (-253), 3), (274, .iconst 1, 1), (275, .ireturn, 1)]
set_option maxRecDepth 100000 in
theorem D_Lw : decAll code L_Lw = true := by decide +kernel
theorem and7 (h : Int32) : ∃ n, n < 8 ∧ h &&& 7 = nI n := by
  refine ⟨(h.toBitVec &&& 7#32).toNat, ?_, ?_⟩
  · rw [BitVec.toNat_and]
    have : h.toBitVec.toNat &&& (7#32).toNat ≤ (7#32).toNat := Nat.and_le_right
    have e : (7#32).toNat = 7 := rfl
    omega
  · apply Int32.toBitVec_inj.mp
    show h.toBitVec &&& 7#32 = BitVec.ofNat 32 (h.toBitVec &&& 7#32).toNat
    rw [BitVec.ofNat_toNat, BitVec.setWidth_eq]
theorem lg_self (x : Int64) : lg_cmp x x = 0 := by
  rw [lg_cmp, if_neg (fun z => Int64.lt_irrefl z), if_pos rfl]
/-! THE CLAIM OUT OF ONE WALK OF THE LAW'S BODY. Your part is whole_start (and what it stands on); all else here is the same for every law, but numbers. -/
def R_law : String := "RescanMillLaw"
def lw_P (b : Addr) (xs : List Int32) (args : Array Value) (s : State) : Prop := args = #[.ref b] ∧ s.IntsAt b xs ∧ xs.length ≤ 2048 ∧ (Jvm.Cond.and given_1 narrow_1).before args s = true
def lw_Q (_ : Array Value) (s : State) (o : Outcome) (t : State) : Prop := o = .returned (some (.int 1)) ∧ Framed s o t [] 600000 7302250
def lw_Z (below : List Frame) (a : Array Value) (s : State) : State → Prop := fun t => ∃ o, t.status = .running ∧ Ended t below o ∧ lw_Q a s o t
/-- the law's own end, with 1 on the stack, nothing written that was there before, its room as the claim has it -/
theorem lw_ret {p : Program} {l : Launch} {e : Env} {s : State} {m : MethodId} {below : List Frame} {meth : Method} {c : Code} {b : Nat} (hx : p.tables.exec = Jvm.exec) (hb : c.code = code) (hr : meth.sig.returnType = ret) (hlocks : meth.locks = false) {pc : Nat} {H : Heap} {ls : Array Slot} (hdg : decode code pc = .ok (.ireturn, 1)) : W p l e room_1 s m #[Value.ref b] below meth c H [] 600000 7302250 (lw_Z below #[Value.ref b] s) (F0 m pc ls [.int 1]) := by
  intro T hT X
  obtain ⟨fs, hret, hrun, hended, hW, hframe⟩ := X.leave (v := some (.int 1)) (hlocks := hlocks) (fun h => by rw [hr] at h; cases h)
  have hmeth' : T.vm.method? m = some meth := X.method'
  refine ⟨T.setFrames fs, ?_, .returned (some (.int 1)), hrun, hended, rfl, ⟨_, rfl⟩, hW, hframe⟩
  jvm_step X.here [X.here.top, hx, hb, hdg, hmeth', hr, ret, narrow_b1]
  (try refine ⟨rfl, ?_⟩); (try refine ⟨rfl, ?_⟩)
  first | (intro acts; rw [hret _ acts rfl rfl rfl]) | rw [hret _ _ rfl rfl rfl]
  exact Steps.refl _
/-- what holds at the law's entry: the machine, the code, the tables' words (any of lw_tbl by 'hts w (by decide +kernel)'), the script of L ints xs at the cell b, what the Statement gives of the start (any of its parts by flat_of_before) -/
def lw_At (p : Program) (s : State) (m : MethodId) (meth : Method) (c : Code) (b L : Nat) (xs : Nat → Int32) : Prop :=
  p.tables.exec = Jvm.exec ∧ c.code = code ∧ meth.sig.returnType = ret ∧ c.maxLocals = 4 ∧ s.vm.findClass R_law = some m.cls ∧ (∀ w ∈ lw_tbl, w.before #[Value.ref b] s = true) ∧ va_X b L xs s s.heap ∧ b < s.heap.size ∧ meth.locks = false ∧ (Jvm.Cond.and given_1 narrow_1).before #[Value.ref b] s = true
set_option maxHeartbeats 4000000 in
set_option maxRecDepth 100000 in
theorem w_feed {p : Program} {l : Launch} {e : Env} {s : State} {m : MethodId} {below : List Frame} {meth : Method} {c : Code} {b L : Nat} {xs : Nat → Int32} {q : ev_T} {i bc bs : Nat} {g : mu_T} {T O : List Int32} (X : Cx p s m #[Value.ref b] c code 4 "RescanMillLaw" q) (hT : va_T .int (ev_ad q 1048755) L (fun j => .int (xs j)) (fun a => q.1 ≤ a) s s.heap) (hL : L ≤ 2048) (hi : i + 4 ≤ L) (hI : LI g T O)
    (next : ∀ (g2 : mu_T) (T2 O2 : List Int32), LI g2 T2 O2 → Vv p l e room_1 s m #[Value.ref b] below meth c 4 q (lw_Z below #[Value.ref b] s) 268 [some (.ref 1048755), some (.ref 0), some (.ref 1003), some (.int (nI i))] [] (bc, bs, g2)) : Vv p l e room_1 s m #[Value.ref b] below meth c 4 q (lw_Z below #[Value.ref b] s) 76 [some (.ref 1048755), some (.ref 0), some (.ref 1003), some (.int (nI i))] [] (bc, bs, g) := by
  obtain ⟨r, d1, P, hd1, k1, k2⟩ := p_feed l q hI (((xs (i + 1)).toInt64 <<< ((32 : Int32).toInt64 &&& 63) ||| ((xs (i + 2)).toInt64 &&& 4294967295))) ((xs (i + 3)))
  refine v_aload_n X (dk D_Lw 22 rfl) rfl ?_
  refine v_aload_n X (dk D_Lw 23 rfl) rfl ?_
  refine v_iload_n X (dk D_Lw 24 rfl) rfl ?_
  refine v_iconst (v := nI 1) X (dk D_Lw 25 rfl) (by decide) ?_
  refine v_iadd X (dk D_Lw 26 rfl) ?_
  rw [nI_add]
  refine v_siald (v := .int (xs (i + 1))) X (dk D_Lw 27 rfl) hT (vp_in_nI (by omega) (by omega)) (by show Value.int (xs (nI (i + 1)).toNatClampNeg) = Value.int (xs (i + 1)); rw [nI_clamp (by omega)]) ?_
  refine v_i2l X (dk D_Lw 28 rfl) rfl ?_
  refine v_bipush (v := 32) X (dk D_Lw 29 rfl) (by decide) ?_
  refine v_lshl X (dk D_Lw 30 rfl) rfl ?_
  refine v_aload_n X (dk D_Lw 31 rfl) rfl ?_
  refine v_iload_n X (dk D_Lw 32 rfl) rfl ?_
  refine v_iconst (v := nI 2) X (dk D_Lw 33 rfl) (by decide) ?_
  refine v_iadd X (dk D_Lw 34 rfl) ?_
  rw [nI_add]
  refine v_siald (v := .int (xs (i + 2))) X (dk D_Lw 35 rfl) hT (vp_in_nI (by omega) (by omega)) (by show Value.int (xs (nI (i + 2)).toNatClampNeg) = Value.int (xs (i + 2)); rw [nI_clamp (by omega)]) ?_
  refine v_i2l X (dk D_Lw 36 rfl) rfl ?_
  refine v_ldc2 (v := 4294967295) X (dk D_Lw 37 rfl) C_Lw_13 ?_
  refine v_land X (dk D_Lw 38 rfl) ?_
  refine v_lor X (dk D_Lw 39 rfl) ?_
  refine v_aload_n X (dk D_Lw 40 rfl) rfl ?_
  refine v_iload_n X (dk D_Lw 41 rfl) rfl ?_
  refine v_iconst (v := nI 3) X (dk D_Lw 42 rfl) (by decide) ?_
  refine v_iadd X (dk D_Lw 43 rfl) ?_
  rw [nI_add]
  refine v_siald (v := .int (xs (i + 3))) X (dk D_Lw 44 rfl) hT (vp_in_nI (by omega) (by omega)) (by show Value.int (xs (nI (i + 3)).toNatClampNeg) = Value.int (xs (i + 3)); rw [nI_clamp (by omega)]) ?_
  refine v_invV (u := (bc, bs, g)) (As := [.long ((xs (i + 1)).toInt64 <<< ((32 : Int32).toInt64 &&& 63) ||| ((xs (i + 2)).toInt64 &&& 4294967295)), .int (xs (i + 3))]) (st := []) (d := d1) X k1 (dk D_Lw 45 rfl) G_Lw_15 K_Mi_feed V_Mi_feed rfl rfl (by show 0 < gN _; rw [hI.N]; decide) rfl rfl (Nat.le_of_ble_eq_true rfl) (by show d1 + 1 ≤ 2048; omega) (by show 48 * (d1 + 1) ≤ 84000; omega) (Nat.zero_le _) (Nat.zero_le _) ?_
  rintro v w1 ⟨rfl, hP⟩
  obtain ⟨hN1, d2, hd2, k3⟩ := k2 w1.2.2 hP
  show Vv p l e room_1 s m #[Value.ref b] below meth c 4 q (lw_Z below #[Value.ref b] s) 105 [some (.ref 1048755), some (.ref 0), some (.ref 1003), some (.int (nI i))] [.int r] (bc, bs, w1.2.2)
  refine v_aload_n X (dk D_Lw 46 rfl) rfl ?_
  refine v_aload_n X (dk D_Lw 47 rfl) rfl ?_
  refine v_iload_n X (dk D_Lw 48 rfl) rfl ?_
  refine v_iconst (v := nI 1) X (dk D_Lw 49 rfl) (by decide) ?_
  refine v_iadd X (dk D_Lw 50 rfl) ?_
  rw [nI_add]
  refine v_siald (v := .int (xs (i + 1))) X (dk D_Lw 51 rfl) hT (vp_in_nI (by omega) (by omega)) (by show Value.int (xs (nI (i + 1)).toNatClampNeg) = Value.int (xs (i + 1)); rw [nI_clamp (by omega)]) ?_
  refine v_i2l X (dk D_Lw 52 rfl) rfl ?_
  refine v_bipush (v := 32) X (dk D_Lw 53 rfl) (by decide) ?_
  refine v_lshl X (dk D_Lw 54 rfl) rfl ?_
  refine v_aload_n X (dk D_Lw 55 rfl) rfl ?_
  refine v_iload_n X (dk D_Lw 56 rfl) rfl ?_
  refine v_iconst (v := nI 2) X (dk D_Lw 57 rfl) (by decide) ?_
  refine v_iadd X (dk D_Lw 58 rfl) ?_
  rw [nI_add]
  refine v_siald (v := .int (xs (i + 2))) X (dk D_Lw 59 rfl) hT (vp_in_nI (by omega) (by omega)) (by show Value.int (xs (nI (i + 2)).toNatClampNeg) = Value.int (xs (i + 2)); rw [nI_clamp (by omega)]) ?_
  refine v_i2l X (dk D_Lw 60 rfl) rfl ?_
  refine v_ldc2 (v := 4294967295) X (dk D_Lw 61 rfl) C_Lw_13 ?_
  refine v_land X (dk D_Lw 62 rfl) ?_
  refine v_lor X (dk D_Lw 63 rfl) ?_
  refine v_aload_n X (dk D_Lw 64 rfl) rfl ?_
  refine v_iload_n X (dk D_Lw 65 rfl) rfl ?_
  refine v_iconst (v := nI 3) X (dk D_Lw 66 rfl) (by decide) ?_
  refine v_iadd X (dk D_Lw 67 rfl) ?_
  rw [nI_add]
  refine v_siald (v := .int (xs (i + 3))) X (dk D_Lw 68 rfl) hT (vp_in_nI (by omega) (by omega)) (by show Value.int (xs (nI (i + 3)).toNatClampNeg) = Value.int (xs (i + 3)); rw [nI_clamp (by omega)]) ?_
  refine v_invV (u := (bc, bs, w1.2.2)) (As := [.long ((xs (i + 1)).toInt64 <<< ((32 : Int32).toInt64 &&& 63) ||| ((xs (i + 2)).toInt64 &&& 4294967295)), .int (xs (i + 3))]) (st := [.int r]) (d := d2) X k3 (dk D_Lw 69 rfl) G_Lw_19 K_Rf_feed V_Rf_feed rfl rfl (by show 1003 < gN _; rw [hN1]; decide) rfl rfl (Nat.le_of_ble_eq_true rfl) (by show d2 + 1 ≤ 2048; omega) (by show 48 * (d2 + 1) ≤ 84000; omega) (Nat.zero_le _) (Nat.zero_le _) ?_
  rintro v w2 ⟨rfl, T2, O2, hI2⟩
  show Vv p l e room_1 s m #[Value.ref b] below meth c 4 q (lw_Z below #[Value.ref b] s) 134 [some (.ref 1048755), some (.ref 0), some (.ref 1003), some (.int (nI i))] [.int r, .int r] (bc, bs, w2.2.2)
  refine v_icmp_eq (tgt := 268) X (dk D_Lw 70 rfl) (by decide) (fun _ => ?_) (fun c9 => absurd rfl c9)
  exact next _ T2 O2 hI2
set_option maxHeartbeats 4000000 in
set_option maxRecDepth 100000 in
theorem w_again {p : Program} {l : Launch} {e : Env} {s : State} {m : MethodId} {below : List Frame} {meth : Method} {c : Code} {b L : Nat} {xs : Nat → Int32} {q : ev_T} {i bc bs : Nat} {g : mu_T} {T O : List Int32} (X : Cx p s m #[Value.ref b] c code 4 "RescanMillLaw" q) (hT : va_T .int (ev_ad q 1048755) L (fun j => .int (xs j)) (fun a => q.1 ≤ a) s s.heap) (hL : L ≤ 2048) (hi : i + 4 ≤ L) (hI : LI g T O)
    (next : ∀ (g2 : mu_T) (T2 O2 : List Int32), LI g2 T2 O2 → Vv p l e room_1 s m #[Value.ref b] below meth c 4 q (lw_Z below #[Value.ref b] s) 268 [some (.ref 1048755), some (.ref 0), some (.ref 1003), some (.int (nI i))] [] (bc, bs, g2)) : Vv p l e room_1 s m #[Value.ref b] below meth c 4 q (lw_Z below #[Value.ref b] s) 139 [some (.ref 1048755), some (.ref 0), some (.ref 1003), some (.int (nI i))] [] (bc, bs, g) := by
  obtain ⟨r, d1, P, hd1, k1, k2⟩ := p_again l q hI ((xs (i + 1))) ((xs (i + 2)))
  refine v_aload_n X (dk D_Lw 73 rfl) rfl ?_
  refine v_aload_n X (dk D_Lw 74 rfl) rfl ?_
  refine v_iload_n X (dk D_Lw 75 rfl) rfl ?_
  refine v_iconst (v := nI 1) X (dk D_Lw 76 rfl) (by decide) ?_
  refine v_iadd X (dk D_Lw 77 rfl) ?_
  rw [nI_add]
  refine v_siald (v := .int (xs (i + 1))) X (dk D_Lw 78 rfl) hT (vp_in_nI (by omega) (by omega)) (by show Value.int (xs (nI (i + 1)).toNatClampNeg) = Value.int (xs (i + 1)); rw [nI_clamp (by omega)]) ?_
  refine v_aload_n X (dk D_Lw 79 rfl) rfl ?_
  refine v_iload_n X (dk D_Lw 80 rfl) rfl ?_
  refine v_iconst (v := nI 2) X (dk D_Lw 81 rfl) (by decide) ?_
  refine v_iadd X (dk D_Lw 82 rfl) ?_
  rw [nI_add]
  refine v_siald (v := .int (xs (i + 2))) X (dk D_Lw 83 rfl) hT (vp_in_nI (by omega) (by omega)) (by show Value.int (xs (nI (i + 2)).toNatClampNeg) = Value.int (xs (i + 2)); rw [nI_clamp (by omega)]) ?_
  refine v_invV (u := (bc, bs, g)) (As := [.int (xs (i + 1)), .int (xs (i + 2))]) (st := []) (d := d1) X k1 (dk D_Lw 84 rfl) G_Lw_20 K_Mi_again V_Mi_again rfl rfl (by show 0 < gN _; rw [hI.N]; decide) rfl rfl (Nat.le_of_ble_eq_true rfl) (by show d1 + 1 ≤ 2048; omega) (by show 48 * (d1 + 1) ≤ 84000; omega) (Nat.zero_le _) (Nat.zero_le _) ?_
  rintro v w1 ⟨rfl, hP⟩
  obtain ⟨hN1, d2, hd2, k3⟩ := k2 w1.2.2 hP
  show Vv p l e room_1 s m #[Value.ref b] below meth c 4 q (lw_Z below #[Value.ref b] s) 153 [some (.ref 1048755), some (.ref 0), some (.ref 1003), some (.int (nI i))] [.int r] (bc, bs, w1.2.2)
  refine v_aload_n X (dk D_Lw 85 rfl) rfl ?_
  refine v_aload_n X (dk D_Lw 86 rfl) rfl ?_
  refine v_iload_n X (dk D_Lw 87 rfl) rfl ?_
  refine v_iconst (v := nI 1) X (dk D_Lw 88 rfl) (by decide) ?_
  refine v_iadd X (dk D_Lw 89 rfl) ?_
  rw [nI_add]
  refine v_siald (v := .int (xs (i + 1))) X (dk D_Lw 90 rfl) hT (vp_in_nI (by omega) (by omega)) (by show Value.int (xs (nI (i + 1)).toNatClampNeg) = Value.int (xs (i + 1)); rw [nI_clamp (by omega)]) ?_
  refine v_aload_n X (dk D_Lw 91 rfl) rfl ?_
  refine v_iload_n X (dk D_Lw 92 rfl) rfl ?_
  refine v_iconst (v := nI 2) X (dk D_Lw 93 rfl) (by decide) ?_
  refine v_iadd X (dk D_Lw 94 rfl) ?_
  rw [nI_add]
  refine v_siald (v := .int (xs (i + 2))) X (dk D_Lw 95 rfl) hT (vp_in_nI (by omega) (by omega)) (by show Value.int (xs (nI (i + 2)).toNatClampNeg) = Value.int (xs (i + 2)); rw [nI_clamp (by omega)]) ?_
  refine v_invV (u := (bc, bs, w1.2.2)) (As := [.int (xs (i + 1)), .int (xs (i + 2))]) (st := [.int r]) (d := d2) X k3 (dk D_Lw 96 rfl) G_Lw_24 K_Rf_again V_Rf_again rfl rfl (by show 1003 < gN _; rw [hN1]; decide) rfl rfl (Nat.le_of_ble_eq_true rfl) (by show d2 + 1 ≤ 2048; omega) (by show 48 * (d2 + 1) ≤ 84000; omega) (Nat.zero_le _) (Nat.zero_le _) ?_
  rintro v w2 ⟨rfl, T2, O2, hI2⟩
  show Vv p l e room_1 s m #[Value.ref b] below meth c 4 q (lw_Z below #[Value.ref b] s) 167 [some (.ref 1048755), some (.ref 0), some (.ref 1003), some (.int (nI i))] [.int r, .int r] (bc, bs, w2.2.2)
  refine v_icmp_eq (tgt := 268) X (dk D_Lw 97 rfl) (by decide) (fun _ => ?_) (fun c9 => absurd rfl c9)
  exact next _ T2 O2 hI2
set_option maxHeartbeats 4000000 in
set_option maxRecDepth 100000 in
theorem w_clear {p : Program} {l : Launch} {e : Env} {s : State} {m : MethodId} {below : List Frame} {meth : Method} {c : Code} {b L : Nat} {xs : Nat → Int32} {q : ev_T} {i bc bs : Nat} {g : mu_T} {T O : List Int32} (X : Cx p s m #[Value.ref b] c code 4 "RescanMillLaw" q) (hT : va_T .int (ev_ad q 1048755) L (fun j => .int (xs j)) (fun a => q.1 ≤ a) s s.heap) (hL : L ≤ 2048) (hi : i + 4 ≤ L) (hI : LI g T O)
    (next : ∀ (g2 : mu_T) (T2 O2 : List Int32), LI g2 T2 O2 → Vv p l e room_1 s m #[Value.ref b] below meth c 4 q (lw_Z below #[Value.ref b] s) 268 [some (.ref 1048755), some (.ref 0), some (.ref 1003), some (.int (nI i))] [] (bc, bs, g2)) : Vv p l e room_1 s m #[Value.ref b] below meth c 4 q (lw_Z below #[Value.ref b] s) 172 [some (.ref 1048755), some (.ref 0), some (.ref 1003), some (.int (nI i))] [] (bc, bs, g) := by
  obtain ⟨r, d1, P, hd1, k1, k2⟩ := p_clear l q hI 
  refine v_aload_n X (dk D_Lw 100 rfl) rfl ?_
  refine v_invV (u := (bc, bs, g)) (As := []) (st := []) (d := d1) X k1 (dk D_Lw 101 rfl) G_Lw_25 K_Mi_clear V_Mi_clear rfl rfl (by show 0 < gN _; rw [hI.N]; decide) rfl rfl (Nat.le_of_ble_eq_true rfl) (by show d1 + 1 ≤ 2048; omega) (by show 48 * (d1 + 1) ≤ 84000; omega) (Nat.zero_le _) (Nat.zero_le _) ?_
  rintro v w1 ⟨rfl, hP⟩
  obtain ⟨hN1, d2, hd2, k3⟩ := k2 w1.2.2 hP
  show Vv p l e room_1 s m #[Value.ref b] below meth c 4 q (lw_Z below #[Value.ref b] s) 176 [some (.ref 1048755), some (.ref 0), some (.ref 1003), some (.int (nI i))] [.int r] (bc, bs, w1.2.2)
  refine v_aload_n X (dk D_Lw 102 rfl) rfl ?_
  refine v_invV (u := (bc, bs, w1.2.2)) (As := []) (st := [.int r]) (d := d2) X k3 (dk D_Lw 103 rfl) G_Lw_29 K_Rf_clear V_Rf_clear rfl rfl (by show 1003 < gN _; rw [hN1]; decide) rfl rfl (Nat.le_of_ble_eq_true rfl) (by show d2 + 1 ≤ 2048; omega) (by show 48 * (d2 + 1) ≤ 84000; omega) (Nat.zero_le _) (Nat.zero_le _) ?_
  rintro v w2 ⟨rfl, T2, O2, hI2⟩
  show Vv p l e room_1 s m #[Value.ref b] below meth c 4 q (lw_Z below #[Value.ref b] s) 180 [some (.ref 1048755), some (.ref 0), some (.ref 1003), some (.int (nI i))] [.int r, .int r] (bc, bs, w2.2.2)
  refine v_icmp_eq (tgt := 268) X (dk D_Lw 104 rfl) (by decide) (fun _ => ?_) (fun c9 => absurd rfl c9)
  exact next _ T2 O2 hI2
set_option maxHeartbeats 4000000 in
set_option maxRecDepth 100000 in
theorem w_run {p : Program} {l : Launch} {e : Env} {s : State} {m : MethodId} {below : List Frame} {meth : Method} {c : Code} {b L : Nat} {xs : Nat → Int32} {q : ev_T} {i bc bs : Nat} {g : mu_T} {T O : List Int32} (X : Cx p s m #[Value.ref b] c code 4 "RescanMillLaw" q) (hT : va_T .int (ev_ad q 1048755) L (fun j => .int (xs j)) (fun a => q.1 ≤ a) s s.heap) (hL : L ≤ 2048) (hi : i + 4 ≤ L) (hI : LI g T O)
    (next : ∀ (g2 : mu_T) (T2 O2 : List Int32), LI g2 T2 O2 → Vv p l e room_1 s m #[Value.ref b] below meth c 4 q (lw_Z below #[Value.ref b] s) 268 [some (.ref 1048755), some (.ref 0), some (.ref 1003), some (.int (nI i))] [] (bc, bs, g2)) : Vv p l e room_1 s m #[Value.ref b] below meth c 4 q (lw_Z below #[Value.ref b] s) 185 [some (.ref 1048755), some (.ref 0), some (.ref 1003), some (.int (nI i))] [] (bc, bs, g) := by
  obtain ⟨r, d1, P, hd1, k1, k2⟩ := p_run l q hI ((xs (i + 1)))
  refine v_aload_n X (dk D_Lw 107 rfl) rfl ?_
  refine v_aload_n X (dk D_Lw 108 rfl) rfl ?_
  refine v_iload_n X (dk D_Lw 109 rfl) rfl ?_
  refine v_iconst (v := nI 1) X (dk D_Lw 110 rfl) (by decide) ?_
  refine v_iadd X (dk D_Lw 111 rfl) ?_
  rw [nI_add]
  refine v_siald (v := .int (xs (i + 1))) X (dk D_Lw 112 rfl) hT (vp_in_nI (by omega) (by omega)) (by show Value.int (xs (nI (i + 1)).toNatClampNeg) = Value.int (xs (i + 1)); rw [nI_clamp (by omega)]) ?_
  refine v_invV (u := (bc, bs, g)) (As := [.int (xs (i + 1))]) (st := []) (d := d1) X k1 (dk D_Lw 113 rfl) G_Lw_30 K_Mi_run V_Mi_run rfl rfl (by show 0 < gN _; rw [hI.N]; decide) rfl rfl (Nat.le_of_ble_eq_true rfl) (by show d1 + 1 ≤ 2048; omega) (by show 48 * (d1 + 1) ≤ 84000; omega) (Nat.zero_le _) (Nat.zero_le _) ?_
  rintro v w1 ⟨rfl, hP⟩
  obtain ⟨hN1, d2, hd2, k3⟩ := k2 w1.2.2 hP
  show Vv p l e room_1 s m #[Value.ref b] below meth c 4 q (lw_Z below #[Value.ref b] s) 194 [some (.ref 1048755), some (.ref 0), some (.ref 1003), some (.int (nI i))] [.int r] (bc, bs, w1.2.2)
  refine v_aload_n X (dk D_Lw 114 rfl) rfl ?_
  refine v_aload_n X (dk D_Lw 115 rfl) rfl ?_
  refine v_iload_n X (dk D_Lw 116 rfl) rfl ?_
  refine v_iconst (v := nI 1) X (dk D_Lw 117 rfl) (by decide) ?_
  refine v_iadd X (dk D_Lw 118 rfl) ?_
  rw [nI_add]
  refine v_siald (v := .int (xs (i + 1))) X (dk D_Lw 119 rfl) hT (vp_in_nI (by omega) (by omega)) (by show Value.int (xs (nI (i + 1)).toNatClampNeg) = Value.int (xs (i + 1)); rw [nI_clamp (by omega)]) ?_
  refine v_invV (u := (bc, bs, w1.2.2)) (As := [.int (xs (i + 1))]) (st := [.int r]) (d := d2) X k3 (dk D_Lw 120 rfl) G_Lw_34 K_Rf_run V_Rf_run rfl rfl (by show 1003 < gN _; rw [hN1]; decide) rfl rfl (Nat.le_of_ble_eq_true rfl) (by show d2 + 1 ≤ 2048; omega) (by show 48 * (d2 + 1) ≤ 84000; omega) (Nat.zero_le _) (Nat.zero_le _) ?_
  rintro v w2 ⟨rfl, T2, O2, hI2⟩
  show Vv p l e room_1 s m #[Value.ref b] below meth c 4 q (lw_Z below #[Value.ref b] s) 203 [some (.ref 1048755), some (.ref 0), some (.ref 1003), some (.int (nI i))] [.int r, .int r] (bc, bs, w2.2.2)
  refine v_icmp_eq (tgt := 268) X (dk D_Lw 121 rfl) (by decide) (fun _ => ?_) (fun c9 => absurd rfl c9)
  exact next _ T2 O2 hI2
set_option maxHeartbeats 4000000 in
set_option maxRecDepth 100000 in
theorem w_told {p : Program} {l : Launch} {e : Env} {s : State} {m : MethodId} {below : List Frame} {meth : Method} {c : Code} {b L : Nat} {xs : Nat → Int32} {q : ev_T} {i bc bs : Nat} {g : mu_T} {T O : List Int32} (X : Cx p s m #[Value.ref b] c code 4 "RescanMillLaw" q) (hT : va_T .int (ev_ad q 1048755) L (fun j => .int (xs j)) (fun a => q.1 ≤ a) s s.heap) (hL : L ≤ 2048) (hi : i + 4 ≤ L) (hI : LI g T O)
    (next : ∀ (g2 : mu_T) (T2 O2 : List Int32), LI g2 T2 O2 → Vv p l e room_1 s m #[Value.ref b] below meth c 4 q (lw_Z below #[Value.ref b] s) 268 [some (.ref 1048755), some (.ref 0), some (.ref 1003), some (.int (nI i))] [] (bc, bs, g2)) : Vv p l e room_1 s m #[Value.ref b] below meth c 4 q (lw_Z below #[Value.ref b] s) 208 [some (.ref 1048755), some (.ref 0), some (.ref 1003), some (.int (nI i))] [] (bc, bs, g) := by
  obtain ⟨r, d1, P, hd1, k1, k2⟩ := p_told l q hI ((xs (i + 1)))
  refine v_aload_n X (dk D_Lw 124 rfl) rfl ?_
  refine v_aload_n X (dk D_Lw 125 rfl) rfl ?_
  refine v_iload_n X (dk D_Lw 126 rfl) rfl ?_
  refine v_iconst (v := nI 1) X (dk D_Lw 127 rfl) (by decide) ?_
  refine v_iadd X (dk D_Lw 128 rfl) ?_
  rw [nI_add]
  refine v_siald (v := .int (xs (i + 1))) X (dk D_Lw 129 rfl) hT (vp_in_nI (by omega) (by omega)) (by show Value.int (xs (nI (i + 1)).toNatClampNeg) = Value.int (xs (i + 1)); rw [nI_clamp (by omega)]) ?_
  refine v_invV (u := (bc, bs, g)) (As := [.int (xs (i + 1))]) (st := []) (d := d1) X k1 (dk D_Lw 130 rfl) G_Lw_35 K_Mi_told V_Mi_told rfl rfl (by show 0 < gN _; rw [hI.N]; decide) rfl rfl (Nat.le_of_ble_eq_true rfl) (by show d1 + 1 ≤ 2048; omega) (by show 48 * (d1 + 1) ≤ 84000; omega) (Nat.zero_le _) (Nat.zero_le _) ?_
  rintro v w1 ⟨rfl, hP⟩
  obtain ⟨hN1, d2, hd2, k3⟩ := k2 w1.2.2 hP
  show Vv p l e room_1 s m #[Value.ref b] below meth c 4 q (lw_Z below #[Value.ref b] s) 217 [some (.ref 1048755), some (.ref 0), some (.ref 1003), some (.int (nI i))] [.int r] (bc, bs, w1.2.2)
  refine v_aload_n X (dk D_Lw 131 rfl) rfl ?_
  refine v_aload_n X (dk D_Lw 132 rfl) rfl ?_
  refine v_iload_n X (dk D_Lw 133 rfl) rfl ?_
  refine v_iconst (v := nI 1) X (dk D_Lw 134 rfl) (by decide) ?_
  refine v_iadd X (dk D_Lw 135 rfl) ?_
  rw [nI_add]
  refine v_siald (v := .int (xs (i + 1))) X (dk D_Lw 136 rfl) hT (vp_in_nI (by omega) (by omega)) (by show Value.int (xs (nI (i + 1)).toNatClampNeg) = Value.int (xs (i + 1)); rw [nI_clamp (by omega)]) ?_
  refine v_invV (u := (bc, bs, w1.2.2)) (As := [.int (xs (i + 1))]) (st := [.int r]) (d := d2) X k3 (dk D_Lw 137 rfl) G_Lw_38 K_Rf_told V_Rf_told rfl rfl (by show 1003 < gN _; rw [hN1]; decide) rfl rfl (Nat.le_of_ble_eq_true rfl) (by show d2 + 1 ≤ 2048; omega) (by show 48 * (d2 + 1) ≤ 84000; omega) (Nat.zero_le _) (Nat.zero_le _) ?_
  rintro v w2 ⟨rfl, T2, O2, hI2⟩
  show Vv p l e room_1 s m #[Value.ref b] below meth c 4 q (lw_Z below #[Value.ref b] s) 226 [some (.ref 1048755), some (.ref 0), some (.ref 1003), some (.int (nI i))] [.int r, .int r] (bc, bs, w2.2.2)
  refine v_icmp_eq (tgt := 268) X (dk D_Lw 138 rfl) (by decide) (fun _ => ?_) (fun c9 => absurd rfl c9)
  exact next _ T2 O2 hI2
set_option maxHeartbeats 4000000 in
set_option maxRecDepth 100000 in
theorem w_size {p : Program} {l : Launch} {e : Env} {s : State} {m : MethodId} {below : List Frame} {meth : Method} {c : Code} {b L : Nat} {xs : Nat → Int32} {q : ev_T} {i bc bs : Nat} {g : mu_T} {T O : List Int32} (X : Cx p s m #[Value.ref b] c code 4 "RescanMillLaw" q) (hT : va_T .int (ev_ad q 1048755) L (fun j => .int (xs j)) (fun a => q.1 ≤ a) s s.heap) (hL : L ≤ 2048) (hi : i + 4 ≤ L) (hI : LI g T O)
    (next : ∀ (g2 : mu_T) (T2 O2 : List Int32), LI g2 T2 O2 → Vv p l e room_1 s m #[Value.ref b] below meth c 4 q (lw_Z below #[Value.ref b] s) 268 [some (.ref 1048755), some (.ref 0), some (.ref 1003), some (.int (nI i))] [] (bc, bs, g2)) : Vv p l e room_1 s m #[Value.ref b] below meth c 4 q (lw_Z below #[Value.ref b] s) 231 [some (.ref 1048755), some (.ref 0), some (.ref 1003), some (.int (nI i))] [] (bc, bs, g) := by
  obtain ⟨r, d1, P, hd1, k1, k2⟩ := p_size l q hI 
  refine v_aload_n X (dk D_Lw 141 rfl) rfl ?_
  refine v_invV (u := (bc, bs, g)) (As := []) (st := []) (d := d1) X k1 (dk D_Lw 142 rfl) G_Lw_39 K_Mi_size V_Mi_size rfl rfl (by show 0 < gN _; rw [hI.N]; decide) rfl rfl (Nat.le_of_ble_eq_true rfl) (by show d1 + 1 ≤ 2048; omega) (by show 48 * (d1 + 1) ≤ 84000; omega) (Nat.zero_le _) (Nat.zero_le _) ?_
  rintro v w1 ⟨rfl, hP⟩
  obtain ⟨hN1, d2, hd2, k3⟩ := k2 w1.2.2 hP
  show Vv p l e room_1 s m #[Value.ref b] below meth c 4 q (lw_Z below #[Value.ref b] s) 235 [some (.ref 1048755), some (.ref 0), some (.ref 1003), some (.int (nI i))] [.int r] (bc, bs, w1.2.2)
  refine v_aload_n X (dk D_Lw 143 rfl) rfl ?_
  refine v_invV (u := (bc, bs, w1.2.2)) (As := []) (st := [.int r]) (d := d2) X k3 (dk D_Lw 144 rfl) G_Lw_42 K_Rf_size V_Rf_size rfl rfl (by show 1003 < gN _; rw [hN1]; decide) rfl rfl (Nat.le_of_ble_eq_true rfl) (by show d2 + 1 ≤ 2048; omega) (by show 48 * (d2 + 1) ≤ 84000; omega) (Nat.zero_le _) (Nat.zero_le _) ?_
  rintro v w2 ⟨rfl, T2, O2, hI2⟩
  show Vv p l e room_1 s m #[Value.ref b] below meth c 4 q (lw_Z below #[Value.ref b] s) 239 [some (.ref 1048755), some (.ref 0), some (.ref 1003), some (.int (nI i))] [.int r, .int r] (bc, bs, w2.2.2)
  refine v_icmp_eq (tgt := 268) X (dk D_Lw 145 rfl) (by decide) (fun _ => ?_) (fun c9 => absurd rfl c9)
  exact next _ T2 O2 hI2
set_option maxHeartbeats 4000000 in
set_option maxRecDepth 100000 in
theorem w_word {p : Program} {l : Launch} {e : Env} {s : State} {m : MethodId} {below : List Frame} {meth : Method} {c : Code} {b L : Nat} {xs : Nat → Int32} {q : ev_T} {i bc bs : Nat} {g : mu_T} {T O : List Int32} (X : Cx p s m #[Value.ref b] c code 4 "RescanMillLaw" q) (hT : va_T .int (ev_ad q 1048755) L (fun j => .int (xs j)) (fun a => q.1 ≤ a) s s.heap) (hL : L ≤ 2048) (hi : i + 4 ≤ L) (hI : LI g T O)
    (next : ∀ (g2 : mu_T) (T2 O2 : List Int32), LI g2 T2 O2 → Vv p l e room_1 s m #[Value.ref b] below meth c 4 q (lw_Z below #[Value.ref b] s) 268 [some (.ref 1048755), some (.ref 0), some (.ref 1003), some (.int (nI i))] [] (bc, bs, g2)) : Vv p l e room_1 s m #[Value.ref b] below meth c 4 q (lw_Z below #[Value.ref b] s) 244 [some (.ref 1048755), some (.ref 0), some (.ref 1003), some (.int (nI i))] [] (bc, bs, g) := by
  obtain ⟨r, d1, P, hd1, k1, k2⟩ := p_word l q hI ((xs (i + 1)))
  refine v_aload_n X (dk D_Lw 148 rfl) rfl ?_
  refine v_aload_n X (dk D_Lw 149 rfl) rfl ?_
  refine v_iload_n X (dk D_Lw 150 rfl) rfl ?_
  refine v_iconst (v := nI 1) X (dk D_Lw 151 rfl) (by decide) ?_
  refine v_iadd X (dk D_Lw 152 rfl) ?_
  rw [nI_add]
  refine v_siald (v := .int (xs (i + 1))) X (dk D_Lw 153 rfl) hT (vp_in_nI (by omega) (by omega)) (by show Value.int (xs (nI (i + 1)).toNatClampNeg) = Value.int (xs (i + 1)); rw [nI_clamp (by omega)]) ?_
  refine v_invV (u := (bc, bs, g)) (As := [.int (xs (i + 1))]) (st := []) (d := d1) X k1 (dk D_Lw 154 rfl) G_Lw_43 K_Mi_word V_Mi_word rfl rfl (by show 0 < gN _; rw [hI.N]; decide) rfl rfl (Nat.le_of_ble_eq_true rfl) (by show d1 + 1 ≤ 2048; omega) (by show 48 * (d1 + 1) ≤ 84000; omega) (Nat.zero_le _) (Nat.zero_le _) ?_
  rintro v w1 ⟨rfl, hP⟩
  obtain ⟨hN1, d2, hd2, k3⟩ := k2 w1.2.2 hP
  show Vv p l e room_1 s m #[Value.ref b] below meth c 4 q (lw_Z below #[Value.ref b] s) 253 [some (.ref 1048755), some (.ref 0), some (.ref 1003), some (.int (nI i))] [.long r] (bc, bs, w1.2.2)
  refine v_aload_n X (dk D_Lw 155 rfl) rfl ?_
  refine v_aload_n X (dk D_Lw 156 rfl) rfl ?_
  refine v_iload_n X (dk D_Lw 157 rfl) rfl ?_
  refine v_iconst (v := nI 1) X (dk D_Lw 158 rfl) (by decide) ?_
  refine v_iadd X (dk D_Lw 159 rfl) ?_
  rw [nI_add]
  refine v_siald (v := .int (xs (i + 1))) X (dk D_Lw 160 rfl) hT (vp_in_nI (by omega) (by omega)) (by show Value.int (xs (nI (i + 1)).toNatClampNeg) = Value.int (xs (i + 1)); rw [nI_clamp (by omega)]) ?_
  refine v_invV (u := (bc, bs, w1.2.2)) (As := [.int (xs (i + 1))]) (st := [.long r]) (d := d2) X k3 (dk D_Lw 161 rfl) G_Lw_47 K_Rf_word V_Rf_word rfl rfl (by show 1003 < gN _; rw [hN1]; decide) rfl rfl (Nat.le_of_ble_eq_true rfl) (by show d2 + 1 ≤ 2048; omega) (by show 48 * (d2 + 1) ≤ 84000; omega) (Nat.zero_le _) (Nat.zero_le _) ?_
  rintro v w2 ⟨rfl, T2, O2, hI2⟩
  show Vv p l e room_1 s m #[Value.ref b] below meth c 4 q (lw_Z below #[Value.ref b] s) 262 [some (.ref 1048755), some (.ref 0), some (.ref 1003), some (.int (nI i))] [.long r, .long r] (bc, bs, w2.2.2)
  refine v_lcmp X (dk D_Lw 162 rfl) ?_
  refine v_if_eq (tgt := 268) X (dk D_Lw 163 rfl) (by decide) (fun _ => ?_) (fun c9 => absurd (lg_self r) c9)
  exact next _ T2 O2 hI2
set_option maxHeartbeats 4000000 in
set_option maxRecDepth 100000 in
theorem law_loop {p : Program} {l : Launch} {e : Env} {s : State} {m : MethodId} {below : List Frame} {meth : Method} {c : Code} {b L : Nat} {xs : Nat → Int32} {q : ev_T} {bc bs : Nat} (X : Cx p s m #[Value.ref b] c code 4 "RescanMillLaw" q) (hq1 : q.1 = s.heap.size) (hr : meth.sig.returnType = ret) (hlk : meth.locks = false) (hT : va_T .int (ev_ad q 1048755) L (fun j => .int (xs j)) (fun a => q.1 ≤ a) s s.heap) (hL : L ≤ 2048) : ∀ (n i : Nat) (g : mu_T) (T O : List Int32), L < i + n → i ≤ L → LI g T O → Vv p l e room_1 s m #[Value.ref b] below meth c 4 q (lw_Z below #[Value.ref b] s) 18 [some (.ref 1048755), some (.ref 0), some (.ref 1003), some (.int (nI i))] [] (bc, bs, g) := by
  intro n
  induction n with
  | zero => intro i g T O h1 h2 _; omega
  | succ n ih =>
    intro i g T O h1 h2 hI
    refine v_iload_n X (dk D_Lw 10 rfl) rfl ?_
    refine v_aload_n X (dk D_Lw 11 rfl) rfl ?_
    refine v_salen (v := nI L) X (dk D_Lw 12 rfl) hT rfl ?_
    refine v_iconst (v := nI 4) X (dk D_Lw 13 rfl) (by decide) ?_
    refine v_isub X (dk D_Lw 14 rfl) ?_
    refine v_icmp_gt (tgt := 274) X (dk D_Lw 15 rfl) (by decide) (fun _ => ?_) (fun c9 => ?_)
    · refine v_iconst (v := 1) X (dk D_Lw 168 rfl) (by decide) ?_
      exact fun ls H locs cells slots h1 h2 h3 h4 h5 => va_forget (fun x hx => by have := h3.2.2 x hx; omega) (W.widen (by have : cells + bc ≤ 600000 := h4; omega) (by have : slots + bs ≤ 7302250 := h5; omega) (lw_ret X.1 X.2.1 hr hlk (dk D_Lw 169 rfl)))
    · have hi : i + 4 ≤ L := Nat.not_lt.mp (fun z => c9 ((lt_sub3 (by omega) (by omega) (by decide)).mpr z))
      have next : ∀ (g2 : mu_T) (T2 O2 : List Int32), LI g2 T2 O2 → Vv p l e room_1 s m #[Value.ref b] below meth c 4 q (lw_Z below #[Value.ref b] s) 268 [some (.ref 1048755), some (.ref 0), some (.ref 1003), some (.int (nI i))] [] (bc, bs, g2) := fun g2 T2 O2 hI2 => by
        refine v_iinc (v := nI (i + 4)) (lb := [some (.ref 1048755), some (.ref 0), some (.ref 1003), some (.int (nI (i + 4)))]) X (dk D_Lw 166 rfl) rfl (nI_add i 4) (by decide) rfl ?_
        refine v_goto (tgt := 18) X (dk D_Lw 167 rfl) (by decide) ?_
        exact ih (i + 4) g2 T2 O2 (by omega) hi hI2
      refine v_aload_n X (dk D_Lw 16 rfl) rfl ?_
      refine v_iload_n X (dk D_Lw 17 rfl) rfl ?_
      refine v_siald (v := .int (xs i)) X (dk D_Lw 18 rfl) hT (vp_in_nI (by omega) (by omega)) (by show Value.int (xs (nI i).toNatClampNeg) = Value.int (xs i); rw [nI_clamp (by omega)]) ?_
      refine v_bipush (v := 7) X (dk D_Lw 19 rfl) (by decide) ?_
      refine v_iand X (dk D_Lw 20 rfl) ?_
      obtain ⟨k, hk, ek⟩ := and7 (xs i)
      rw [ek]
      rcases (show k = 0 ∨ k = 1 ∨ k = 2 ∨ k = 3 ∨ k = 4 ∨ k = 5 ∨ k = 6 ∨ k = 7 by omega) with rfl | rfl | rfl | rfl | rfl | rfl | rfl | rfl
      · exact v_tableIn (off := 44) (tgt := 76) X (dk D_Lw 21 rfl) (by decide) (by decide) (by decide) (by decide) (w_feed X hT hL hi hI next)
      · exact v_tableIn (off := 107) (tgt := 139) X (dk D_Lw 21 rfl) (by decide) (by decide) (by decide) (by decide) (w_again X hT hL hi hI next)
      · exact v_tableIn (off := 140) (tgt := 172) X (dk D_Lw 21 rfl) (by decide) (by decide) (by decide) (by decide) (w_clear X hT hL hi hI next)
      · exact v_tableIn (off := 153) (tgt := 185) X (dk D_Lw 21 rfl) (by decide) (by decide) (by decide) (by decide) (w_run X hT hL hi hI next)
      · exact v_tableIn (off := 176) (tgt := 208) X (dk D_Lw 21 rfl) (by decide) (by decide) (by decide) (by decide) (w_told X hT hL hi hI next)
      · exact v_tableIn (off := 199) (tgt := 231) X (dk D_Lw 21 rfl) (by decide) (by decide) (by decide) (by decide) (w_size X hT hL hi hI next)
      · exact v_tableIn (off := 212) (tgt := 244) X (dk D_Lw 21 rfl) (by decide) (by decide) (by decide) (by decide) (w_word X hT hL hi hI next)
      · exact v_tableOut (tgt := 268) X (dk D_Lw 21 rfl) (by decide) (by decide) (next g T O hI)
