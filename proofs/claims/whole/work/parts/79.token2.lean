/-! a token is used -/
def ntT : List Fr → List Fr
  | [] => []
  | f :: r => (f.1, f.2.1, f.2.2.1, true) :: r
theorem ntT_hl : ∀ fs : List Fr, hl (ntT fs) = hl fs ∧ na (ntT fs) = na fs ∧ (ntT fs).length = fs.length
  | [] => ⟨rfl, rfl, rfl⟩
  | _ :: _ => ⟨rfl, rfl, rfl⟩
def sF (S : Mst) (fs : List Fr) (cm : Bool) : Mst := (S.1, S.2.1, (fs, cm), S.2.2.2)
def sI (S : Mst) (I : Ip) : Mst := (I, S.2)
/-- the last argument gets more bytes -/
def apL : List (List Int32) → List Int32 → List (List Int32)
  | [], _ => []
  | [a], t => [a ++ t]
  | a :: b :: as, t => a :: apL (b :: as) t
theorem apL_snoc {a t : List Int32} : ∀ {as : List (List Int32)}, apL (as ++ [a]) t = as ++ [a ++ t]
  | [] => rfl
  | [x] => rfl
  | x :: y :: as => by
    have := apL_snoc (a := a) (t := t) (as := y :: as)
    show x :: apL (y :: (as ++ [a])) t = _
    rw [show y :: (as ++ [a]) = (y :: as) ++ [a] from rfl, this]; rfl
/-- is it a call -/
def isCl (S : Mst) (tk : List Int32) : Bool := match (S.2.2.2.1.1 tk).head? with
  | none => false
  | some (none, _) => true
  | some (some c, _) => decide (c - 1048576 < 13 → atL S.1.1 (nI 0) = 40)
def opC (tk : List Int32) (S : Mst) : Int32 × Mst :=
  if 50 ≤ S.2.2.1.1.length then (34, sF S (ntT S.2.2.1.1) false)
  else if 16384 < (hl S.2.2.1.1).length + tk.length then (40, sF S (ntT S.2.2.1.1) false)
  else if ¬ atL S.1.1 (nI 0) = 40 then (0, sF S ((tk, [], 1, false) :: ntT S.2.2.1.1) true)
  else if tkV S.1 < 0 then (31, sI (sF S ((tk, [], 1, false) :: ntT S.2.2.1.1) false) (tkI S.1))
  else if na S.2.2.1.1 < 8192 then (0, sI (sF S ((tk, [[]], 1, false) :: ntT S.2.2.1.1) false) (tkI S.1))
  else (40, sI (sF S ((tk, [], 1, false) :: ntT S.2.2.1.1) false) (tkI S.1))
def hld (tk : List Int32) (f : Fr) (r : List Fr) (S : Mst) : Int32 × Mst := if (hl (f :: r)).length + tk.length ≤ 16384 then (0, sF S ((f.1, apL f.2.1 tk, f.2.2.1, true) :: r) false) else (40, sF S ((f.1, f.2.1, f.2.2.1, true) :: r) false)
def uiA (kd : Int32) (tk : List Int32) (f : Fr) (r : List Fr) (S : Mst) : Int32 × Mst :=
  if kd = 4 then
    if isSpc (atL tk (nI 0)) = true ∧ ¬ f.2.2.2 = true then (0, S)
    else if atL tk (nI 0) = 44 ∧ f.2.2.1 = 1 then (if na (f :: r) < 8192 then (0, sF S ((f.1, f.2.1 ++ [[]], f.2.2.1, false) :: r) false) else (40, S))
    else if atL tk (nI 0) = 40 then hld tk (f.1, f.2.1, f.2.2.1 + 1, f.2.2.2) r S
    else if atL tk (nI 0) = 41 then (if f.2.2.1 = 1 then (0, sF S ((f.1, f.2.1, f.2.2.1 - 1, f.2.2.2) :: r) true) else hld tk (f.1, f.2.1, f.2.2.1 - 1, f.2.2.2) r S)
    else hld tk f r S
  else hld tk f r S
theorem kn_note (l : Launch) (q : ev_T) {fs : List Fr} {cm : Bool} {g : mu_T} (hS : Shp g) (hC : CA g fs cm) (hne : ∀ f ∈ fs, f.2.1 ≠ []) : Ctr l q M_Ca_noteToken 1 [.ref 17] (0, 0, g) (fun v w => v = none ∧ sm g w.2.2 CS ∧ CA w.2.2 (ntT fs) cm) := by
  cases fs with
  | nil => exact (k_noteToken0 l q hS hC).weak fun v w h => ⟨h.1, by rw [h.2]; exact sm.rf _ _, by rw [h.2]; exact hC⟩
  | cons f r => exact k_noteToken l q hS hC (hne f (List.mem_cons_self ..))
theorem CA_cm {g : mu_T} {fs : List Fr} {cm : Bool} (h : CA g fs cm) (c : Bool) : CA (xI g 17 2 (if c = true then 1 else 0)) fs c := by
  obtain ⟨h1, h2, h3, h4, h5, h6, h7⟩ := h
  have z : sm g (xI g 17 2 (if c = true then 1 else 0)) [17] := (sm.rf g _).xI (by simp)
  exact ⟨h1.sm z (by decide) (by decide), (gI_nk (by decide)).trans h2, h3, gI_eq _ _ _ _, (gI_nk (by decide)).trans h5, h6, h7.sm z (by decide) (by decide) (by decide) (by decide) (by decide)⟩
set_option maxHeartbeats 4000000 in
set_option maxRecDepth 100000 in
theorem k_isCalled (l : Launch) (q : ev_T) {fu : Nat} {S : Mst} {tk : List Int32} {ov : Bool} {g : mu_T} (hW : MW g fu S) (hok : OKP S.2.2.2.1.1) (hT : RB g 12 13 32768 tk ov) : Ctr l q M_Mi_isCalled 3 [.ref 0] (0, 0, g) (fun v w => v = some (.int (if isCl S tk = true then 1 else 0)) ∧ w.2.2 = g) := by
  obtain ⟨hS, -, -, hI, -, -, -, ⟨bk, sp, N, T, B, n9, b9, hM, hMC, hnb, hbb, hdf, hdb, P0⟩, -, -, -⟩ := id hW
  obtain ⟨k, hk1, hk2⟩ := and127 (hsh tk)
  have htl := hT.2.1
  refine Ctr.mk (lb := [some (.ref 0), none]) (by decide +kernel) (Nat.le_of_ble_eq_true rfl) rfl rfl ?_
  intro pp ee ss mm aa bb mt cd X hrt hlk hnm
  refine v_inv (fun hBB _ => ?_)
  have htb := RB_byte hBB hT
  refine v_aload_n X (dk D_Mi_isCalled 0 rfl) rfl ?_
  refine v_getF X (dk D_Mi_isCalled 1 rfl) F_Mi_44 rfl rfl (hS.lt (by decide)) (hS.2 0 5) ?_
  refine v_aload_n X (dk D_Mi_isCalled 2 rfl) rfl ?_
  refine v_getF X (dk D_Mi_isCalled 3 rfl) F_Mi_30 rfl rfl (hS.lt (by decide)) (hS.2 0 3) ?_
  refine v_getF X (dk D_Mi_isCalled 4 rfl) F_Mi_170 rfl rfl (hS.lt (by decide)) (hS.2 7 2) ?_
  refine v_iconst (v := nI 0) X (dk D_Mi_isCalled 5 rfl) (by decide) ?_
  refine v_aload_n X (dk D_Mi_isCalled 6 rfl) rfl ?_
  refine v_getF X (dk D_Mi_isCalled 7 rfl) F_Mi_30 rfl rfl (hS.lt (by decide)) (hS.2 0 3) ?_
  refine v_getF X (dk D_Mi_isCalled 8 rfl) F_Mi_170 rfl rfl (hS.lt (by decide)) (hS.2 7 2) ?_
  refine v_getI X (dk D_Mi_isCalled 9 rfl) F_Mi_66 rfl rfl (hS.lt (by decide)) ?_
  rw [hT.2.2.1]
  refine v_invV (As := [.ref 12, .int (nI 0), .int (nI tk.length)]) (st := []) X (k_findM l q hS hM hT (by decide) (f := 0) (n := tk.length) (by omega) htb hk1 (by rw [List.drop_zero, List.take_length]; exact hk2)) (dk D_Mi_isCalled 10 rfl) G_Mi_176 K_Ms_find V_Ms_find rfl rfl (hS.lt (by decide)) rfl rfl (Nat.le_of_ble_eq_true rfl) (Nat.le_of_ble_eq_true rfl) (Nat.le_of_ble_eq_true rfl) (Nat.le_of_ble_eq_true rfl) (Nat.le_of_ble_eq_true rfl) ?_
  rintro v ws ⟨rfl, hws⟩
  rw [hws, List.drop_zero, List.take_length]
  show Vv _ _ _ _ _ _ _ _ _ _ _ _ _ _ _ [va_rf (((bk k).find? (fun i => decide (N i = tk))).map (fun i => 31 + 3 * i))] (0, 0, g)
  rcases on_or ((bk k).find? (fun i => decide (N i = tk))) with hF | ⟨i, hF⟩
  · have hP0 : (S.2.2.2.1.1 tk).head? = none := by rw [P0 tk k hk1 hk2, BF_none (fnd_none hF)]; rfl
    rw [hF]
    show Vv _ _ _ _ _ _ _ _ _ _ _ _ _ _ _ [.null] (0, 0, g)
    refine v_astore_nN (lb := [some (.ref 0), some .null]) X (dk D_Mi_isCalled 11 rfl) (by decide) rfl ?_
    refine v_aload_nN X (dk D_Mi_isCalled 12 rfl) rfl ?_
    refine v_ifnonnullN X (dk D_Mi_isCalled 13 rfl) ?_
    refine v_iconst (v := 0) X (dk D_Mi_isCalled 14 rfl) (by decide) ?_
    exact v_zret X hlk hrt rfl (dk D_Mi_isCalled 15 rfl) ⟨by rw [isCl, hP0]; rfl, rfl⟩
  · obtain ⟨ks, is, hbk, hn, hks⟩ := fnd_split hF
    have hin : i ∈ bk k := by rw [hbk]; simp
    have hi := (hM.2.2.2.2.2.1 k hk1 i hin).1
    have hPc := P0 tk k hk1 hk2
    rw [BF_fnd hbk hn hks] at hPc
    have hP0 : (S.2.2.2.1.1 tk).head? = some (B i, T i) := by rw [hPc]; rfl
    rw [hF]
    show Vv _ _ _ _ _ _ _ _ _ _ _ _ _ _ _ [.ref (31 + 3 * i)] (0, 0, g)
    rcases on_or (B i) with hBi | ⟨c, hBi⟩
    · refine v_astore_n (lb := [some (.ref 0), some (.ref (31 + 3 * i))]) X (dk D_Mi_isCalled 11 rfl) (by decide) rfl ?_
      refine v_aload_n X (dk D_Mi_isCalled 12 rfl) rfl ?_
      refine v_ifnonnull (tgt := 32) X (dk D_Mi_isCalled 13 rfl) (by decide) ?_
      refine v_aload_n X (dk D_Mi_isCalled 16 rfl) rfl ?_
      refine v_getR X (dk D_Mi_isCalled 17 rfl) F_Mi_180 rfl (kdM i hi).1 (hS.lt (by omega)) ((hM.2.2.2.2.2.2.1 i hi).trans hBi) ?_
      refine v_ifnullN (tgt := 62) X (dk D_Mi_isCalled 18 rfl) (by decide) ?_
      refine v_iconst (v := 1) X (dk D_Mi_isCalled 29 rfl) (by decide) ?_
      refine v_goto (tgt := 67) X (dk D_Mi_isCalled 30 rfl) (by decide) ?_
      exact v_zret X hlk hrt rfl (dk D_Mi_isCalled 32 rfl) ⟨by rw [isCl, hP0, hBi]; rfl, rfl⟩
    · obtain ⟨j, hj, rfl⟩ := hok tk (B i, T i) (by rw [hPc]; simp) c hBi
      have hic : isCl S tk = true ↔ (j < 13 → atL S.1.1 (nI 0) = 40) := by rw [isCl, hP0, hBi]; show decide (1048576 + j - 1048576 < 13 → _) = true ↔ _; rw [Nat.add_sub_cancel_left, decide_eq_true_eq]
      refine v_astore_n (lb := [some (.ref 0), some (.ref (31 + 3 * i))]) X (dk D_Mi_isCalled 11 rfl) (by decide) rfl ?_
      refine v_aload_n X (dk D_Mi_isCalled 12 rfl) rfl ?_
      refine v_ifnonnull (tgt := 32) X (dk D_Mi_isCalled 13 rfl) (by decide) ?_
      refine v_aload_n X (dk D_Mi_isCalled 16 rfl) rfl ?_
      refine v_getR X (dk D_Mi_isCalled 17 rfl) F_Mi_180 rfl (kdM i hi).1 (hS.lt (by omega)) ((hM.2.2.2.2.2.2.1 i hi).trans hBi) ?_
      refine v_ifnull X (dk D_Mi_isCalled 18 rfl) ?_
      refine v_aload_n X (dk D_Mi_isCalled 19 rfl) rfl ?_
      refine v_getR X (dk D_Mi_isCalled 20 rfl) F_Mi_180 rfl (kdM i hi).1 (hS.lt (by omega)) ((hM.2.2.2.2.2.2.1 i hi).trans hBi) ?_
      refine v_sget (v := .int (if j < 13 then 1 else 0)) X (dk D_Mi_isCalled 21 rfl) Z_Mi_186 (X.sf.1 j hj).2.2.1 ?_
      refine v_if_eq (tgt := 62) X (dk D_Mi_isCalled 22 rfl) (by decide) (fun c46 => ?_) (fun c46 => ?_)
      · refine v_iconst (v := 1) X (dk D_Mi_isCalled 29 rfl) (by decide) ?_
        refine v_goto (tgt := 67) X (dk D_Mi_isCalled 30 rfl) (by decide) ?_
        exact v_zret X hlk hrt rfl (dk D_Mi_isCalled 32 rfl) ⟨by first | rw [if_pos (hic.mpr (fun z => absurd c46 (by rw [if_pos z]; decide)))] | rw [if_neg (fun z => c59 (hic.mp z (Decidable.byContradiction (fun y => c46 (if_neg y)))))] | rw [if_pos (hic.mpr (fun _ => c59))], rfl⟩
      · refine v_aload_n X (dk D_Mi_isCalled 23 rfl) rfl ?_
        refine v_getF X (dk D_Mi_isCalled 24 rfl) F_Mi_30 rfl rfl (hS.lt (by decide)) (hS.2 0 3) ?_
        refine v_iconst (v := nI 0) X (dk D_Mi_isCalled 25 rfl) (by decide) ?_
        refine v_invV (As := [.int (nI 0)]) (st := []) X (k_peek l q (k := 0) hS hI (by decide)) (dk D_Mi_isCalled 26 rfl) G_Mi_189 K_In_peek V_In_peek rfl rfl (hS.lt (by decide)) rfl rfl (Nat.le_of_ble_eq_true rfl) (Nat.le_of_ble_eq_true rfl) (Nat.le_of_ble_eq_true rfl) (Nat.le_of_ble_eq_true rfl) (Nat.le_of_ble_eq_true rfl) ?_
        rintro v ws2 ⟨rfl, hws2⟩
        rw [hws2]
        show Vv _ _ _ _ _ _ _ _ _ _ _ _ _ _ _ [.int (atL S.1.1 (nI 0))] (0, 0, g)
        refine v_bipush (v := 40) X (dk D_Mi_isCalled 27 rfl) (by decide) ?_
        refine v_icmp_ne (tgt := 66) X (dk D_Mi_isCalled 28 rfl) (by decide) (fun c59 => ?_) (fun c59 => ?_)
        · refine v_iconst (v := 0) X (dk D_Mi_isCalled 31 rfl) (by decide) ?_
          exact v_zret X hlk hrt rfl (dk D_Mi_isCalled 32 rfl) ⟨by first | rw [if_pos (hic.mpr (fun z => absurd c46 (by rw [if_pos z]; decide)))] | rw [if_neg (fun z => c59 (hic.mp z (Decidable.byContradiction (fun y => c46 (if_neg y)))))] | rw [if_pos (hic.mpr (fun _ => c59))], rfl⟩
        · refine v_iconst (v := 1) X (dk D_Mi_isCalled 29 rfl) (by decide) ?_
          refine v_goto (tgt := 67) X (dk D_Mi_isCalled 30 rfl) (by decide) ?_
          exact v_zret X hlk hrt rfl (dk D_Mi_isCalled 32 rfl) ⟨by first | rw [if_pos (hic.mpr (fun z => absurd c46 (by rw [if_pos z]; decide)))] | rw [if_neg (fun z => c59 (hic.mp z (Decidable.byContradiction (fun y => c46 (if_neg y)))))] | rw [if_pos (hic.mpr (fun _ => c59))], rfl⟩
set_option maxHeartbeats 4000000 in
set_option maxRecDepth 100000 in
theorem k_openCall (l : Launch) (q : ev_T) {fu : Nat} {S : Mst} {tk : List Int32} {ov : Bool} {g : mu_T} (hW : MW g fu S) (hcm : S.2.2.1.2 = false) (hne : ∀ f ∈ S.2.2.1.1, f.2.1 ≠ []) (hT : RB g 12 13 32768 tk ov) : Ctr l q M_Mi_openCall 3 [.ref 0] (0, 0, g) (fun v w => v = some (.int (opC tk S).1) ∧ sm g w.2.2 RN ∧ MW w.2.2 fu (opC tk S).2) := by
  have hS := hW.1
  have hC : CA g S.2.2.1.1 false := by have := hW.2.2.2.2.2.2.1; rw [hcm] at this; exact this
  have hnt := ntT_hl S.2.2.1.1
  have hlen := hC.2.2.1
  have hna2 : na S.2.2.1.1 < 8192 → na ((tk, [], 1, false) :: ntT S.2.2.1.1) < 8192 := fun z => by rw [na, hnt.2.1]; exact z
  have hna2r : na ((tk, [], 1, false) :: ntT S.2.2.1.1) < 8192 → na S.2.2.1.1 < 8192 := fun z => by rw [na, hnt.2.1] at z; exact z
  refine Ctr.mk (lb := [some (.ref 0)]) (by decide +kernel) (Nat.le_of_ble_eq_true rfl) rfl rfl ?_
  intro pp ee ss mm aa bb mt cd X hrt hlk hnm
  refine v_aload_n X (dk D_Mi_openCall 0 rfl) rfl ?_
  refine v_getF X (dk D_Mi_openCall 1 rfl) F_Mi_37 rfl rfl (hS.lt (by decide)) (hS.2 0 4) ?_
  refine v_invV (As := []) (st := []) X (kn_note l q hS hC hne) (dk D_Mi_openCall 2 rfl) G_Mi_192 K_Ca_noteToken V_Ca_noteToken rfl rfl (hS.lt (by decide)) rfl rfl (Nat.le_of_ble_eq_true rfl) (Nat.le_of_ble_eq_true rfl) (Nat.le_of_ble_eq_true rfl) (Nat.le_of_ble_eq_true rfl) (Nat.le_of_ble_eq_true rfl) ?_
  rintro v w1 ⟨rfl, a1, a2⟩
  have S1 := hS.sm a1
  have W1 : MW w1.2.2 fu (sF S (ntT S.2.2.1.1) false) := (hW.gen a1 (by decide) (by decide) (Or.inr ⟨rfl, by decide, by decide, by decide, by decide⟩) (Or.inr ⟨rfl, by decide, by decide, by decide, by decide⟩) (Or.inl a2) (Or.inr ⟨rfl, M25 CS (by decide)⟩) (Or.inr ⟨rfl, by decide⟩) (Or.inr ⟨by decide, by decide⟩) (Or.inr ⟨by decide, by decide⟩))
  have Z1 := a1.mono (RN_of CS (by decide))
  have T1 := hT.sm a1 (by decide) (by decide)
  show Vv _ _ _ _ _ _ _ _ _ _ _ _ _ _ _ [] (0, 0, w1.2.2)
  refine v_aload_n X (dk D_Mi_openCall 3 rfl) rfl ?_
  refine v_getF X (dk D_Mi_openCall 4 rfl) F_Mi_37 rfl rfl (S1.lt (by decide)) (S1.2 0 4) ?_
  refine v_getI X (dk D_Mi_openCall 5 rfl) F_Mi_101 rfl rfl (S1.lt (by decide)) ?_
  rw [show gI w1.2.2 17 1 = nI S.2.2.1.1.length from by rw [a2.2.1, hnt.2.2]]
  refine v_bipush (v := 50) X (dk D_Mi_openCall 6 rfl) (by decide) ?_
  refine v_icmp_lt (tgt := 22) X (dk D_Mi_openCall 7 rfl) (by decide) (fun c16 => ?_) (fun c16 => ?_)
  · have h50 : S.2.2.1.1.length < 50 := (nI_ltI (b := 50) (by omega) (by decide)).mp c16
    refine v_aload_n X (dk D_Mi_openCall 10 rfl) rfl ?_
    refine v_getF X (dk D_Mi_openCall 11 rfl) F_Mi_37 rfl rfl (S1.lt (by decide)) (S1.2 0 4) ?_
    refine v_aload_n X (dk D_Mi_openCall 12 rfl) rfl ?_
    refine v_getF X (dk D_Mi_openCall 13 rfl) F_Mi_30 rfl rfl (S1.lt (by decide)) (S1.2 0 3) ?_
    refine v_getF X (dk D_Mi_openCall 14 rfl) F_Mi_170 rfl rfl (S1.lt (by decide)) (S1.2 7 2) ?_
    refine v_invV (As := [.ref 12]) (st := []) X (k_begin l q S1 a2 T1 (by decide) (by decide) (by decide)) (dk D_Mi_openCall 15 rfl) G_Mi_195 K_Ca_begin V_Ca_begin rfl rfl (S1.lt (by decide)) rfl rfl (Nat.le_of_ble_eq_true rfl) (Nat.le_of_ble_eq_true rfl) (Nat.le_of_ble_eq_true rfl) (Nat.le_of_ble_eq_true rfl) (Nat.le_of_ble_eq_true rfl) ?_
    rintro v w2 ⟨rfl, b1, b2, b3⟩
    rw [hnt.1, hnt.2.2]
    rw [hnt.1, hnt.2.2] at b2 b3
    have S2 := S1.sm b1
    have Z2 := Z1.tr b1 (U := RN) (fun _ h => h) (RN_of CS (by decide))
    have i1 := W1.2.2.2.1.sm b1 (by decide) (by decide) (by decide) (by decide)
    show Vv _ _ _ _ _ _ _ _ _ _ _ _ _ _ _ [.int (if S.2.2.1.1.length < 50 ∧ (hl S.2.2.1.1).length + tk.length ≤ 16384 then 1 else 0)] (0, 0, w2.2.2)
    refine v_if_ne (tgt := 42) X (dk D_Mi_openCall 16 rfl) (by decide) (fun c36 => ?_) (fun c36 => ?_)
    · have hrm : S.2.2.1.1.length < 50 ∧ (hl S.2.2.1.1).length + tk.length ≤ 16384 := Decidable.byContradiction (fun z => c36 (if_neg z))
      have W2 : MW w2.2.2 fu (sF S ((tk, [], 1, false) :: ntT S.2.2.1.1) false) := (W1.gen b1 (by decide) (by decide) (Or.inr ⟨rfl, by decide, by decide, by decide, by decide⟩) (Or.inr ⟨rfl, by decide, by decide, by decide, by decide⟩) (Or.inl (b2 hrm)) (Or.inr ⟨rfl, M25 CS (by decide)⟩) (Or.inr ⟨rfl, by decide⟩) (Or.inr ⟨by decide, by decide⟩) (Or.inr ⟨by decide, by decide⟩))
      refine v_aload_n X (dk D_Mi_openCall 19 rfl) rfl ?_
      refine v_getF X (dk D_Mi_openCall 20 rfl) F_Mi_30 rfl rfl (S2.lt (by decide)) (S2.2 0 3) ?_
      refine v_iconst (v := nI 0) X (dk D_Mi_openCall 21 rfl) (by decide) ?_
      refine v_invV (As := [.int (nI 0)]) (st := []) X (k_peek l q (k := 0) S2 i1 (by decide)) (dk D_Mi_openCall 22 rfl) G_Mi_189 K_In_peek V_In_peek rfl rfl (S2.lt (by decide)) rfl rfl (Nat.le_of_ble_eq_true rfl) (Nat.le_of_ble_eq_true rfl) (Nat.le_of_ble_eq_true rfl) (Nat.le_of_ble_eq_true rfl) (Nat.le_of_ble_eq_true rfl) ?_
      rintro v ws2 ⟨rfl, hws2⟩
      rw [hws2]
      show Vv _ _ _ _ _ _ _ _ _ _ _ _ _ _ _ [.int (atL S.1.1 (nI 0))] (0, 0, w2.2.2)
      refine v_bipush (v := 40) X (dk D_Mi_openCall 23 rfl) (by decide) ?_
      refine v_icmp_eq (tgt := 65) X (dk D_Mi_openCall 24 rfl) (by decide) (fun c52 => ?_) (fun c52 => ?_)
      · refine v_aload_n X (dk D_Mi_openCall 31 rfl) rfl ?_
        refine v_getF X (dk D_Mi_openCall 32 rfl) F_Mi_30 rfl rfl (S2.lt (by decide)) (S2.2 0 3) ?_
        refine v_invV (As := []) (st := []) X (k_In_take l q S2 i1) (dk D_Mi_openCall 33 rfl) G_Mi_197 K_In_take V_In_take rfl rfl (S2.lt (by decide)) rfl rfl (Nat.le_of_ble_eq_true rfl) (Nat.le_of_ble_eq_true rfl) (Nat.le_of_ble_eq_true rfl) (Nat.le_of_ble_eq_true rfl) (Nat.le_of_ble_eq_true rfl) ?_
        rintro v w3 ⟨rfl, d1, d2, -⟩
        have S3 := S2.sm d1
        have Z3 := Z2.tr d1 (U := RN) (fun _ h => h) (RN_of [7] (by decide))
        have W3 : MW w3.2.2 fu (sI (sF S ((tk, [], 1, false) :: ntT S.2.2.1.1) false) (tkI S.1)) := (W2.gen d1 (by decide) (by decide) (Or.inl d2) (Or.inr ⟨rfl, by decide, by decide, by decide, by decide⟩) (Or.inr ⟨rfl, by decide⟩) (Or.inr ⟨rfl, M25 [7] (by decide)⟩) (Or.inr ⟨rfl, by decide⟩) (Or.inr ⟨by decide, by decide⟩) (Or.inr ⟨by decide, by decide⟩))
        show Vv _ _ _ _ _ _ _ _ _ _ _ _ _ _ _ [.int (tkV S.1)] (0, 0, w3.2.2)
        refine v_if_ge (tgt := 78) X (dk D_Mi_openCall 34 rfl) (by decide) (fun c72 => ?_) (fun c72 => ?_)
        · have hneg : ¬ tkV S.1 < 0 := Int32.not_lt.mpr c72
          refine v_aload_n X (dk D_Mi_openCall 37 rfl) rfl ?_
          refine v_getF X (dk D_Mi_openCall 38 rfl) F_Mi_37 rfl rfl (S3.lt (by decide)) (S3.2 0 4) ?_
          refine v_invV (As := []) (st := []) X (k_beginArgument l q S3 W3.2.2.2.2.2.2.1) (dk D_Mi_openCall 39 rfl) G_Mi_200 K_Ca_beginArgument V_Ca_beginArgument rfl rfl (S3.lt (by decide)) rfl rfl (Nat.le_of_ble_eq_true rfl) (Nat.le_of_ble_eq_true rfl) (Nat.le_of_ble_eq_true rfl) (Nat.le_of_ble_eq_true rfl) (Nat.le_of_ble_eq_true rfl) ?_
          rintro v w4 ⟨rfl, e1, e2, e3⟩
          have Z4 := Z3.tr e1 (U := RN) (fun _ h => h) (RN_of CS (by decide))
          show Vv _ _ _ _ _ _ _ _ _ _ _ _ _ _ _ [.int (if na ((tk, [], 1, false) :: ntT S.2.2.1.1) < 8192 then 1 else 0)] (0, 0, w4.2.2)
          refine v_if_eq (tgt := 92) X (dk D_Mi_openCall 40 rfl) (by decide) (fun c85 => ?_) (fun c85 => ?_)
          · refine v_bipush (v := 40) X (dk D_Mi_openCall 43 rfl) (by decide) ?_
            exact v_iret X hlk hrt (dk D_Mi_openCall 44 rfl) (by have hn : ¬ na S.2.2.1.1 < 8192 := (fun z => absurd c85 (by rw [if_pos (hna2 z)]; decide)); rw [opC, if_neg (show ¬ 50 ≤ S.2.2.1.1.length by omega), if_neg (show ¬ 16384 < (hl S.2.2.1.1).length + tk.length by omega), if_neg (fun z => z c52), if_neg hneg, if_neg hn]; exact ⟨rfl, Z4, by rw [e3 (fun z => hn (hna2r z))]; exact W3⟩)
          · refine v_iconst (v := 0) X (dk D_Mi_openCall 41 rfl) (by decide) ?_
            refine v_goto (tgt := 94) X (dk D_Mi_openCall 42 rfl) (by decide) ?_
            exact v_iret X hlk hrt (dk D_Mi_openCall 44 rfl) (by have hn0 : na ((tk, [], 1, false) :: ntT S.2.2.1.1) < 8192 := Decidable.byContradiction (fun z => c85 (if_neg z)); have hn : na S.2.2.1.1 < 8192 := hna2r hn0; rw [opC, if_neg (show ¬ 50 ≤ S.2.2.1.1.length by omega), if_neg (show ¬ 16384 < (hl S.2.2.1.1).length + tk.length by omega), if_neg (fun z => z c52), if_neg hneg, if_pos hn]; exact ⟨rfl, Z4, (W3.gen e1 (by decide) (by decide) (Or.inr ⟨rfl, by decide, by decide, by decide, by decide⟩) (Or.inr ⟨rfl, by decide, by decide, by decide, by decide⟩) (Or.inl (e2 hn0)) (Or.inr ⟨rfl, M25 CS (by decide)⟩) (Or.inr ⟨rfl, by decide⟩) (Or.inr ⟨by decide, by decide⟩) (Or.inr ⟨by decide, by decide⟩))⟩)
        · have hneg : tkV S.1 < 0 := Int32.not_le.mp c72
          refine v_bipush (v := 31) X (dk D_Mi_openCall 35 rfl) (by decide) ?_
          exact v_iret X hlk hrt (dk D_Mi_openCall 36 rfl) ⟨by rw [opC, if_neg (show ¬ 50 ≤ S.2.2.1.1.length by omega), if_neg (show ¬ 16384 < (hl S.2.2.1.1).length + tk.length by omega), if_neg (fun z => z c52), if_pos hneg], Z3, by rw [opC, if_neg (show ¬ 50 ≤ S.2.2.1.1.length by omega), if_neg (show ¬ 16384 < (hl S.2.2.1.1).length + tk.length by omega), if_neg (fun z => z c52), if_pos hneg]; exact W3⟩
      · refine v_aload_n X (dk D_Mi_openCall 25 rfl) rfl ?_
        refine v_getF X (dk D_Mi_openCall 26 rfl) F_Mi_37 rfl rfl (S2.lt (by decide)) (S2.2 0 4) ?_
        refine v_iconst (v := if true = true then 1 else 0) X (dk D_Mi_openCall 27 rfl) (by decide) ?_
        refine v_putI X (dk D_Mi_openCall 28 rfl) F_Mi_94 CK_Ca rfl rfl (S2.lt (by decide)) rfl rfl ?_
        refine v_iconst (v := 0) X (dk D_Mi_openCall 29 rfl) (by decide) ?_
        exact v_iret X hlk hrt (dk D_Mi_openCall 30 rfl) ⟨by rw [opC, if_neg (show ¬ 50 ≤ S.2.2.1.1.length by omega), if_neg (show ¬ 16384 < (hl S.2.2.1.1).length + tk.length by omega), if_pos c52], Z2.xI (RN_mem.mpr (by decide)), by rw [opC, if_neg (show ¬ 50 ≤ S.2.2.1.1.length by omega), if_neg (show ¬ 16384 < (hl S.2.2.1.1).length + tk.length by omega), if_pos c52]; exact (W2.gen ((sm.rf w2.2.2 [17]).xI (by simp)) (by decide) (by decide) (Or.inr ⟨rfl, by decide, by decide, by decide, by decide⟩) (Or.inr ⟨rfl, by decide, by decide, by decide, by decide⟩) (Or.inl (CA_cm W2.2.2.2.2.2.2.1 true)) (Or.inr ⟨rfl, M25 [17] (by decide)⟩) (Or.inr ⟨rfl, by decide⟩) (Or.inr ⟨by decide, by decide⟩) (Or.inr ⟨by decide, by decide⟩))⟩
    · have hrm : 16384 < (hl S.2.2.1.1).length + tk.length := Decidable.byContradiction (fun z => absurd c36 (by rw [if_pos ⟨h50, by omega⟩]; decide))
      refine v_bipush (v := 40) X (dk D_Mi_openCall 17 rfl) (by decide) ?_
      exact v_iret X hlk hrt (dk D_Mi_openCall 18 rfl) ⟨by rw [opC, if_neg (show ¬ 50 ≤ S.2.2.1.1.length by omega), if_pos hrm], Z2, by rw [opC, if_neg (show ¬ 50 ≤ S.2.2.1.1.length by omega), if_pos hrm, b3 (fun z => by omega)]; exact W1⟩
  · have h50 : 50 ≤ S.2.2.1.1.length := Decidable.byContradiction (fun z => c16 (nI_lt (b := 50) (by omega) (by decide)))
    refine v_bipush (v := 34) X (dk D_Mi_openCall 8 rfl) (by decide) ?_
    exact v_iret X hlk hrt (dk D_Mi_openCall 9 rfl) ⟨by rw [opC, if_pos h50], Z1, by rw [opC, if_pos h50]; exact W1⟩
