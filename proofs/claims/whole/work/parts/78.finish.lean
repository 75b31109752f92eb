/-! a call is finished -/
theorem kr_putBack (l : Launch) (q : ev_T) {fu : Nat} {I : Ip} {F : List Int32} {g : mu_T} (hS : Shp g) (hI : IQ g fu I) (hR : RE g F) : Ctr l q M_In_putBack 1 [.ref 7, .ref 5] (0, 0, g) (fun v w => v = some (.int (if F.length + I.1.length ≤ 32768 then 1 else 0)) ∧ sm g w.2.2 [7, 16] ∧ (F.length + I.1.length ≤ 32768 → IQ w.2.2 fu (F ++ I.1, I.2)) ∧ (¬ F.length + I.1.length ≤ 32768 → w.2.2 = g)) := by
  obtain ⟨xs, ov, h1, h2, h3⟩ := hR
  have key : (ov = false ∧ xs.length + I.1.length ≤ 32768) ↔ F.length + I.1.length ≤ 32768 := by
    rcases h2 with ⟨a, b⟩ | ⟨a, b⟩
    · have b : xs = F := b
      rw [b]
      exact ⟨fun z => z.2, fun z => ⟨a, z⟩⟩
    · have a : ov = true := a
      exact ⟨fun z => (by rw [z.1] at a; cases a), fun z => by omega⟩
  refine (k_putBack l q hS hI h1 (by decide) (by decide) (by decide) (by decide) h3).weak fun v w h => ⟨?_, h.2.1, fun c => ?_, fun c => h.2.2.2.2 (fun z => c (key.mp z))⟩
  · rw [h.1]
    by_cases c : F.length + I.1.length ≤ 32768
    · rw [if_pos c, if_pos (key.mpr c)]
    · rw [if_neg c, if_neg (fun z => c (key.mp z))]
  · have := h.2.2.2.1 (key.mpr c)
    rcases h2 with ⟨a, b⟩ | ⟨a, b⟩
    · have b : xs = F := b
      rw [b] at this
      exact this
    · exact absurd (key.mpr c).1 (by rw [show ov = true from a]; decide)
/-- what is built in has one of the seventeen numbers -/
def OKP (P : Mng) : Prop := ∀ nm, ∀ e ∈ P nm, ∀ c, e.1 = some c → ∃ j, j < 17 ∧ c = 1048576 + j
def fnE (r : List Fr) (e : Int32) (S : Mst) (F : List Int32) : Int32 × Mst := if e = 0 then (if F.length + S.1.1.length ≤ 32768 then (0, ((F ++ S.1.1, S.1.2), S.2.1, (r, false), S.2.2.2)) else (40, (S.1, S.2.1, (r, false), S.2.2.2))) else (e, (S.1, S.2.1, (r, false), S.2.2.2))
def fnC (f : Fr) (r : List Fr) (S : Mst) : Int32 × Mst := match (S.2.2.2.1.1 f.1).head? with
  | none => fnE r 0 S []
  | some (none, t) => fnE r 0 S (xpd (mrk f S.2.1.1 S.2.1.2) t)
  | some (some c, _) => fnE r (bI (c - 1048576) S f).1 (bI (c - 1048576) S f).2.1 (bI (c - 1048576) S f).2.2
theorem bI_fs {j : Nat} {S : Mst} {f : Fr} (hj : j < 17) : (bI j S f).2.1.2.2.1 = S.2.2.1 := by
  have hc : j = 0 ∨ j = 1 ∨ j = 2 ∨ j = 3 ∨ j = 4 ∨ j = 5 ∨ j = 6 ∨ j = 7 ∨ j = 8 ∨ j = 9 ∨ j = 10 ∨ j = 11 ∨ j = 12 ∨ j = 13 ∨ j = 14 ∨ j = 15 ∨ j = 16 := by omega
  rcases hc with rfl | rfl | rfl | rfl | rfl | rfl | rfl | rfl | rfl | rfl | rfl | rfl | rfl | rfl | rfl | rfl | rfl <;> rfl
set_option maxHeartbeats 4000000 in
set_option maxRecDepth 100000 in
theorem k_finishCall (l : Launch) (q : ev_T) {fu : Nat} {S : Mst} {f : Fr} {r : List Fr} {g : mu_T} (hW : MW g fu S) (hfs : S.2.2.1.1 = f :: r) (hok : OKP S.2.2.2.1.1) : Ctr l q M_Mi_finishCall 9 [.ref 0] (0, 0, g) (fun v w => v = some (.int (fnC f r S).1) ∧ sm g w.2.2 RN ∧ MW w.2.2 fu (fnC f r S).2) := by
  obtain ⟨F, hR⟩ := hW.2.2.2.2.2.2.2.2.2.1
  have hS := hW.1
  obtain ⟨k, hk1, hk2⟩ := and127 (hsh f.1)
  refine Ctr.mk (lb := [some (.ref 0), none, none]) (by decide +kernel) (Nat.le_of_ble_eq_true rfl) rfl rfl ?_
  intro pp ee ss mm aa bb mt cd X hrt hlk hnm
  have endp : ∀ (u : mu_T) (S1 : Mst) (F : List Int32) (e : Int32), MW u fu S1 → S1.2.2.1.1 = f :: r → RE u F → sm g u RN → (fnC f r S) = fnE r e S1 F → Vv pp l ee (rmT 9 0 0) ss mm aa bb mt cd 3 q (MQ bb (Qw q (fun v w => v = some (.int (fnC f r S).1) ∧ sm g w.2.2 RN ∧ MW w.2.2 fu (fnC f r S).2)) aa ss 0 0 (fun a => q.1 ≤ a)) 70 [some (.ref 0), some (.int e), none] [] (0, 0, u) := by
    intro u S1 F e hWu hfs1 hRu zu hres
    have hSu := hWu.1
    have hCu := hWu.2.2.2.2.2.2.1
    rw [hfs1] at hCu
    refine v_aload_n X (dk D_Mi_finishCall 34 rfl) rfl ?_
    refine v_getF X (dk D_Mi_finishCall 35 rfl) F_Mi_37 rfl rfl (hSu.lt (by decide)) (hSu.2 0 4) ?_
    refine v_invV (As := []) (st := []) X (k_Ca_end l q hSu hCu) (dk D_Mi_finishCall 36 rfl) G_Mi_239 K_Ca_end V_Ca_end rfl rfl (hSu.lt (by decide)) rfl rfl (Nat.le_of_ble_eq_true rfl) (Nat.le_of_ble_eq_true rfl) (Nat.le_of_ble_eq_true rfl) (Nat.le_of_ble_eq_true rfl) (Nat.le_of_ble_eq_true rfl) ?_
    rintro v w ⟨rfl, y1, y2⟩
    have T1 := hSu.sm y1
    have W1 : MW w.2.2 fu (S1.1, S1.2.1, (r, false), S1.2.2.2) := (hWu.gen y1 (by decide) (by decide) (Or.inr ⟨rfl, by decide, by decide, by decide, by decide⟩) (Or.inr ⟨rfl, by decide, by decide, by decide, by decide⟩) (Or.inl y2) (Or.inr ⟨rfl, M25 CS (by decide)⟩) (Or.inr ⟨rfl, by decide⟩) (Or.inr ⟨by decide, by decide⟩) (Or.inr ⟨by decide, by decide⟩))
    show Vv _ _ _ _ _ _ _ _ _ _ _ _ _ _ _ [] (0, 0, w.2.2)
    refine v_iload_n X (dk D_Mi_finishCall 37 rfl) rfl ?_
    refine v_if_eq (tgt := 83) X (dk D_Mi_finishCall 38 rfl) (by decide) (fun c78 => ?_) (fun c78 => ?_)
    · refine v_aload_n X (dk D_Mi_finishCall 41 rfl) rfl ?_
      refine v_getF X (dk D_Mi_finishCall 42 rfl) F_Mi_30 rfl rfl (T1.lt (by decide)) (T1.2 0 3) ?_
      refine v_aload_n X (dk D_Mi_finishCall 43 rfl) rfl ?_
      refine v_getF X (dk D_Mi_finishCall 44 rfl) F_Mi_24 rfl rfl (T1.lt (by decide)) (T1.2 0 2) ?_
      refine v_invV (As := [.ref 5]) (st := []) X (kr_putBack l q T1 (W1.2.2.2.1) (hRu.sm y1 (by decide) (by decide))) (dk D_Mi_finishCall 45 rfl) G_Mi_242 K_In_putBack V_In_putBack rfl rfl (T1.lt (by decide)) rfl rfl (Nat.le_of_ble_eq_true rfl) (Nat.le_of_ble_eq_true rfl) (Nat.le_of_ble_eq_true rfl) (Nat.le_of_ble_eq_true rfl) (Nat.le_of_ble_eq_true rfl) ?_
      rintro v w2 ⟨rfl, b1, b2, b3⟩
      show Vv _ _ _ _ _ _ _ _ _ _ _ _ _ _ _ [.int (if F.length + S1.1.1.length ≤ 32768 then 1 else 0)] (0, 0, w2.2.2)
      refine v_if_eq (tgt := 101) X (dk D_Mi_finishCall 46 rfl) (by decide) (fun c94 => ?_) (fun c94 => ?_)
      · refine v_bipush (v := 40) X (dk D_Mi_finishCall 49 rfl) (by decide) ?_
        exact v_iret X hlk hrt (dk D_Mi_finishCall 50 rfl) (by have hn : ¬ F.length + S1.1.1.length ≤ 32768 := (fun h => absurd c94 (by rw [if_pos h]; decide)); have he : e = 0 := c78; rw [hres, fnE, if_pos he, if_neg hn]; exact ⟨rfl, ((zu.tr y1 (U := RN) (fun _ h => h) (RN_of CS (by decide))).tr b1 (U := RN) (fun _ h => h) (RN_of [7, 16] (by decide))), by rw [b3 hn]; exact W1⟩)
      · refine v_iconst (v := 0) X (dk D_Mi_finishCall 47 rfl) (by decide) ?_
        refine v_goto (tgt := 103) X (dk D_Mi_finishCall 48 rfl) (by decide) ?_
        exact v_iret X hlk hrt (dk D_Mi_finishCall 50 rfl) (by have hn : F.length + S1.1.1.length ≤ 32768 := Decidable.byContradiction (fun h => c94 (if_neg h)); have he : e = 0 := c78; rw [hres, fnE, if_pos he, if_pos hn]; exact ⟨rfl, ((zu.tr y1 (U := RN) (fun _ h => h) (RN_of CS (by decide))).tr b1 (U := RN) (fun _ h => h) (RN_of [7, 16] (by decide))), (W1.gen b1 (by decide) (by decide) (Or.inl (b2 hn)) (Or.inr ⟨rfl, by decide, by decide, by decide, by decide⟩) (Or.inr ⟨rfl, by decide⟩) (Or.inr ⟨rfl, M25 [7, 16] (by decide)⟩) (Or.inr ⟨rfl, by decide⟩) (Or.inr ⟨by decide, by decide⟩) (Or.inr ⟨by decide, by decide⟩))⟩)
    · refine v_iload_n X (dk D_Mi_finishCall 39 rfl) rfl ?_
      exact v_iret X hlk hrt (dk D_Mi_finishCall 40 rfl) ⟨by rw [hres, fnE, if_neg c78], (zu.tr y1 (U := RN) (fun _ h => h) (RN_of CS (by decide))), by rw [hres, fnE, if_neg c78]; exact W1⟩
  refine v_aload_n X (dk D_Mi_finishCall 0 rfl) rfl ?_
  refine v_getF X (dk D_Mi_finishCall 1 rfl) F_Mi_24 rfl rfl (hS.lt (by decide)) (hS.2 0 2) ?_
  refine v_iconst (v := 0) X (dk D_Mi_finishCall 2 rfl) (by decide) ?_
  refine v_invV (As := [.int 0]) (st := []) X (kr_cut l q hR) (dk D_Mi_finishCall 3 rfl) G_Mi_77 K_By_cut V_By_cut rfl rfl (hS.lt (by decide)) rfl rfl (Nat.le_of_ble_eq_true rfl) (Nat.le_of_ble_eq_true rfl) (Nat.le_of_ble_eq_true rfl) (Nat.le_of_ble_eq_true rfl) (Nat.le_of_ble_eq_true rfl) ?_
  rintro v w0 ⟨rfl, z0, R0⟩
  have W0 : MW w0.2.2 fu S := (hW.gen z0 (by decide) (by decide) (Or.inr ⟨rfl, by decide, by decide, by decide, by decide⟩) (Or.inr ⟨rfl, by decide, by decide, by decide, by decide⟩) (Or.inr ⟨rfl, by decide⟩) (Or.inr ⟨rfl, M25 [5] (by decide)⟩) (Or.inr ⟨rfl, by decide⟩) (Or.inl ⟨_, R0⟩) (Or.inr ⟨by decide, by decide⟩))
  obtain ⟨S0, DR0, MR0, I0, ⟨oo, O0⟩, ⟨oc, Q0⟩, C0, ⟨bk, sp, N, T, B, n9, b9, M0, MC0, hnb, hbb, hdf, hdb, P0⟩, D0, -, -⟩ := id W0
  rw [hfs] at C0
  refine v_inv (fun hBB _ => ?_)
  have hfb := RB_byte hBB C0.1
  show Vv _ _ _ _ _ _ _ _ _ _ _ _ _ _ _ [] (0, 0, w0.2.2)
  refine v_iconst (v := 0) X (dk D_Mi_finishCall 4 rfl) (by decide) ?_
  refine v_istore_n (lb := [some (.ref 0), some (.int 0), none]) X (dk D_Mi_finishCall 5 rfl) (by decide) rfl ?_
  refine v_aload_n X (dk D_Mi_finishCall 6 rfl) rfl ?_
  refine v_getF X (dk D_Mi_finishCall 7 rfl) F_Mi_44 rfl rfl (S0.lt (by decide)) (S0.2 0 5) ?_
  refine v_aload_n X (dk D_Mi_finishCall 8 rfl) rfl ?_
  refine v_getF X (dk D_Mi_finishCall 9 rfl) F_Mi_37 rfl rfl (S0.lt (by decide)) (S0.2 0 4) ?_
  refine v_getF X (dk D_Mi_finishCall 10 rfl) F_Mi_219 rfl rfl (S0.lt (by decide)) (S0.2 17 0) ?_
  refine v_aload_n X (dk D_Mi_finishCall 11 rfl) rfl ?_
  refine v_getF X (dk D_Mi_finishCall 12 rfl) F_Mi_37 rfl rfl (S0.lt (by decide)) (S0.2 0 4) ?_
  refine v_invV (As := []) (st := [.ref 18, .ref 25]) X (k_nameStart l q S0 C0) (dk D_Mi_finishCall 13 rfl) G_Mi_222 K_Ca_nameStart V_Ca_nameStart rfl rfl (S0.lt (by decide)) rfl rfl (Nat.le_of_ble_eq_true rfl) (Nat.le_of_ble_eq_true rfl) (Nat.le_of_ble_eq_true rfl) (Nat.le_of_ble_eq_true rfl) (Nat.le_of_ble_eq_true rfl) ?_
  rintro v ws ⟨rfl, hws⟩
  rw [hws]
  show Vv _ _ _ _ _ _ _ _ _ _ _ _ _ _ _ [.int (nI (hl r).length), .ref 18, .ref 25] (0, 0, w0.2.2)
  refine v_aload_n X (dk D_Mi_finishCall 14 rfl) rfl ?_
  refine v_getF X (dk D_Mi_finishCall 15 rfl) F_Mi_37 rfl rfl (S0.lt (by decide)) (S0.2 0 4) ?_
  refine v_invV (As := []) (st := [.int (nI (hl r).length), .ref 18, .ref 25]) X (k_nameLength l q S0 C0) (dk D_Mi_finishCall 16 rfl) G_Mi_225 K_Ca_nameLength V_Ca_nameLength rfl rfl (S0.lt (by decide)) rfl rfl (Nat.le_of_ble_eq_true rfl) (Nat.le_of_ble_eq_true rfl) (Nat.le_of_ble_eq_true rfl) (Nat.le_of_ble_eq_true rfl) (Nat.le_of_ble_eq_true rfl) ?_
  rintro v ws ⟨rfl, hws⟩
  rw [hws]
  show Vv _ _ _ _ _ _ _ _ _ _ _ _ _ _ _ [.int (nI f.1.length), .int (nI (hl r).length), .ref 18, .ref 25] (0, 0, w0.2.2)
  refine v_invV (As := [.ref 18, .int (nI (hl r).length), .int (nI f.1.length)]) (st := []) X (k_findM l q S0 M0 C0.1 (by decide) nm_le hfb hk1 (by rw [nm_slice]; exact hk2)) (dk D_Mi_finishCall 17 rfl) G_Mi_176 K_Ms_find V_Ms_find rfl rfl (S0.lt (by decide)) rfl rfl (Nat.le_of_ble_eq_true rfl) (Nat.le_of_ble_eq_true rfl) (Nat.le_of_ble_eq_true rfl) (Nat.le_of_ble_eq_true rfl) (Nat.le_of_ble_eq_true rfl) ?_
  rintro v ws ⟨rfl, hws⟩
  rw [hws, nm_slice]
  show Vv _ _ _ _ _ _ _ _ _ _ _ _ _ _ _ [va_rf (((bk k).find? (fun i => decide (N i = f.1))).map (fun i => 31 + 3 * i))] (0, 0, w0.2.2)
  obtain ⟨ch, fl, fr, hCW, hN⟩ := M0.2.2.1
  rcases on_or ((bk k).find? (fun i => decide (N i = f.1))) with hF | ⟨i, hF⟩
  · have hP0 : (S.2.2.2.1.1 f.1).head? = none := by rw [P0 f.1 k hk1 hk2, BF_none (fnd_none hF)]; rfl
    rw [hF]
    show Vv _ _ _ _ _ _ _ _ _ _ _ _ _ _ _ [.null] (0, 0, w0.2.2)
    refine v_astore_nN (lb := [some (.ref 0), some (.int 0), some .null]) X (dk D_Mi_finishCall 18 rfl) (by decide) rfl ?_
    refine v_aload_nN X (dk D_Mi_finishCall 19 rfl) rfl ?_
    refine v_ifnullN (tgt := 70) X (dk D_Mi_finishCall 20 rfl) (by decide) ?_
    exact v_weak (la := [some (.ref 0), some (.int 0), none]) ⟨rfl, rfl, trivial⟩ (endp w0.2.2 S [] 0 W0 hfs R0 (z0.mono (RN_of [5] (by decide))) (by rw [fnC, hP0]))
  · obtain ⟨ks, is, hbk, hn, hks⟩ := fnd_split hF
    have hin : i ∈ bk k := by rw [hbk]; simp
    have hi := (M0.2.2.2.2.2.1 k hk1 i hin).1
    have hPc := P0 f.1 k hk1 hk2
    rw [BF_fnd hbk hn hks] at hPc
    have hP0 : (S.2.2.2.1.1 f.1).head? = some (B i, T i) := by rw [hPc]; rfl
    have hTl : (T i).length = (ch (33 + 3 * i)).length := by rw [← (hN i hi).2, bys, List.length_map]
    rw [hF]
    show Vv _ _ _ _ _ _ _ _ _ _ _ _ _ _ _ [.ref (31 + 3 * i)] (0, 0, w0.2.2)
    rcases on_or (B i) with hBi | ⟨c, hBi⟩
    · refine v_astore_n (lb := [some (.ref 0), some (.int 0), some (.ref (31 + 3 * i))]) X (dk D_Mi_finishCall 18 rfl) (by decide) rfl ?_
      refine v_aload_n X (dk D_Mi_finishCall 19 rfl) rfl ?_
      refine v_ifnull X (dk D_Mi_finishCall 20 rfl) ?_
      refine v_aload_n X (dk D_Mi_finishCall 21 rfl) rfl ?_
      refine v_getR X (dk D_Mi_finishCall 22 rfl) F_Mi_180 rfl (kdM i hi).1 (S0.lt (by omega)) ((M0.2.2.2.2.2.2.1 i hi).trans hBi) ?_
      refine v_ifnonnullN X (dk D_Mi_finishCall 23 rfl) ?_
      refine v_aload_n X (dk D_Mi_finishCall 24 rfl) rfl ?_
      refine v_aload_n X (dk D_Mi_finishCall 25 rfl) rfl ?_
      refine v_getF X (dk D_Mi_finishCall 26 rfl) F_Mi_228 rfl (kdM i hi).1 (S0.lt (by omega)) ((S0.2 _ 1).trans (fRM hi).2) ?_
      refine v_invV (As := [.ref (33 + 3 * i)]) (st := []) X (k_expand l q S0 C0 hfb R0 O0 Q0 (RB_byte hBB O0) (RB_byte hBB Q0) hi (hCW.2.2.2.1 _ (SM_2 hi)) (fun p hp => by have := ((hCW.2.2.2.2.2.2.2.2.2.2.2.1 _ (SM_2 hi)).2 p hp).1; have := hCW.2.2.2.2.2.2.2.1; omega) (by rw [← hTl]; have := (M0.2.2.2.2.2.2.2.2.2.2 i hi); have h1 := tot_up (ch := ch) (x := []) hCW.2.1 (SM_2 hi); have h2 := hCW.2.2.2.2.2.2.2.2.1; have h3 := hCW.2.2.2.2.2.2.2.1; rw [List.length_nil] at h1; rw [hTl]; omega) (by rw [(hN i hi).2]; exact (M0.2.2.2.2.2.2.2.2.2.2 i hi).2)) (dk D_Mi_finishCall 27 rfl) G_Mi_231 K_Mi_expand V_Mi_expand rfl rfl (S0.lt (by decide)) rfl rfl (Nat.le_of_ble_eq_true rfl) (Nat.le_of_ble_eq_true rfl) (Nat.le_of_ble_eq_true rfl) (Nat.le_of_ble_eq_true rfl) (Nat.le_of_ble_eq_true rfl) ?_
      rintro v w1 ⟨rfl, y1, y2⟩
      rw [(hN i hi).2] at y2
      show Vv _ _ _ _ _ _ _ _ _ _ _ _ _ _ _ [] (0, 0, w1.2.2)
      refine v_goto (tgt := 70) X (dk D_Mi_finishCall 28 rfl) (by decide) ?_
      exact v_weak (la := [some (.ref 0), some (.int 0), none]) ⟨rfl, rfl, trivial⟩ (endp w1.2.2 S _ 0 (show MW w1.2.2 fu S from (W0.gen y1 (by decide) (by decide) (Or.inr ⟨rfl, by decide, by decide, by decide, by decide⟩) (Or.inr ⟨rfl, by decide, by decide, by decide, by decide⟩) (Or.inr ⟨rfl, by decide⟩) (Or.inr ⟨rfl, M25 [5, 6] (by decide)⟩) (Or.inr ⟨rfl, by decide⟩) (Or.inl ⟨_, y2⟩) (Or.inr ⟨by decide, by decide⟩))) hfs y2 ((z0.mono (RN_of [5] (by decide))).tr y1 (U := RN) (fun _ h => h) (RN_of [5, 6] (by decide))) (by rw [fnC, hP0, hBi]; rfl))
    · obtain ⟨j, hj, rfl⟩ := hok f.1 (B i, T i) (by rw [hPc]; simp) c hBi
      refine v_astore_n (lb := [some (.ref 0), some (.int 0), some (.ref (31 + 3 * i))]) X (dk D_Mi_finishCall 18 rfl) (by decide) rfl ?_
      refine v_aload_n X (dk D_Mi_finishCall 19 rfl) rfl ?_
      refine v_ifnull X (dk D_Mi_finishCall 20 rfl) ?_
      refine v_aload_n X (dk D_Mi_finishCall 21 rfl) rfl ?_
      refine v_getR X (dk D_Mi_finishCall 22 rfl) F_Mi_180 rfl (kdM i hi).1 (S0.lt (by omega)) ((M0.2.2.2.2.2.2.1 i hi).trans hBi) ?_
      refine v_ifnonnull (tgt := 61) X (dk D_Mi_finishCall 23 rfl) (by decide) ?_
      refine v_aload_n X (dk D_Mi_finishCall 29 rfl) rfl ?_
      refine v_aload_n X (dk D_Mi_finishCall 30 rfl) rfl ?_
      refine v_getR X (dk D_Mi_finishCall 31 rfl) F_Mi_180 rfl (kdM i hi).1 (S0.lt (by omega)) ((M0.2.2.2.2.2.2.1 i hi).trans hBi) ?_
      refine v_invV (As := [.ref (1048576 + j)]) (st := []) X (k_useBuiltIn l q hj W0 hfs R0) (dk D_Mi_finishCall 32 rfl) G_Mi_235 K_Mi_useBuiltIn V_Mi_useBuiltIn rfl rfl (S0.lt (by decide)) rfl rfl (Nat.le_of_ble_eq_true rfl) (Nat.le_of_ble_eq_true rfl) (Nat.le_of_ble_eq_true rfl) (Nat.le_of_ble_eq_true rfl) (Nat.le_of_ble_eq_true rfl) ?_
      rintro v w1 ⟨rfl, y1, y2, y3⟩
      rw [List.nil_append] at y3
      show Vv _ _ _ _ _ _ _ _ _ _ _ _ _ _ _ [.int (bI j S f).1] (0, 0, w1.2.2)
      refine v_istore_n (lb := [some (.ref 0), some (.int (bI j S f).1), some (.ref (31 + 3 * i))]) X (dk D_Mi_finishCall 33 rfl) (by decide) rfl ?_
      exact v_weak (la := [some (.ref 0), some (.int (bI j S f).1), none]) ⟨rfl, rfl, trivial⟩ (endp w1.2.2 _ _ _ y2 ((congrArg Prod.fst (bI_fs hj)).trans hfs) y3 ((z0.mono (RN_of [5] (by decide))).tr y1 (U := RN) (fun _ h => h) (fun _ h => h)) (by rw [fnC, hP0, hBi]; show fnE r (bI (1048576 + j - 1048576) S f).1 _ _ = _; rw [Nat.add_sub_cancel_left]))
