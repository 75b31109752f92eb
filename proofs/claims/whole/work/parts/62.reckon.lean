/-! Expression: its state; begin, await, reckon -/
theorem g_Ex_130 : Cond.methodLink "RescanMill$Expression" 130 M_Op_isBetween.1 ∈ tbG := tb_in (i := 763) (by decide +kernel) (by decide +kernel)
theorem g_Ex_121 : Cond.methodLink "RescanMill$Expression" 121 M_St_length.1 ∈ tbG := tb_in (i := 819) (by decide +kernel) (by decide +kernel)
theorem g_Ex_137 : Cond.methodLink "RescanMill$Expression" 137 M_St_charAt.1 ∈ tbG := tb_in (i := 820) (by decide +kernel) (by decide +kernel)
def stI (f : Nat → Int32) : List Int32 → Prop
  | [] => True
  | v :: vs => f vs.length = v ∧ stI f vs
def stR (f : Nat → Option Nat) : List Nat → Prop
  | [] => True
  | o :: ws => f ws.length = some (1048600 + o) ∧ stR f ws
theorem stI_same {f h : Nat → Int32} : ∀ {vs : List Int32}, (∀ j, j < vs.length → h j = f j) → stI f vs → stI h vs
  | [], _, _ => trivial
  | _ :: vs, e, ⟨a, b⟩ => ⟨(e vs.length (by simp)).trans a, stI_same (fun j hj => e j (by simp; omega)) b⟩
theorem stR_same {f h : Nat → Option Nat} : ∀ {vs : List Nat}, (∀ j, j < vs.length → h j = f j) → stR f vs → stR h vs
  | [], _, _ => trivial
  | _ :: vs, e, ⟨a, b⟩ => ⟨(e vs.length (by simp)).trans a, stR_same (fun j hj => e j (by simp; omega)) b⟩
def EX (g : mu_T) (b at_ en : Nat) (vs : List Int32) (ws : List Nat) (ns : Nat) (due bz : Bool) : Prop :=
  gR g 997 0 = some b ∧ gI g 997 1 = nI at_ ∧ gI g 997 2 = nI en ∧ gI g 997 4 = nI vs.length ∧ gI g 997 6 = nI ws.length ∧ gI g 997 7 = nI ns ∧ gI g 997 8 = (if due = true then 1 else 0) ∧ gI g 997 9 = (if bz = true then 1 else 0) ∧ stI (gI g 1000) vs ∧ stR (gR g 1001) ws
def XS : List Nat := [997, 1000, 1001]
theorem EX.sm {g k : mu_T} {S : List Nat} {b at_ en : Nat} {vs : List Int32} {ws : List Nat} {ns : Nat} {due bz : Bool} (h : EX g b at_ en vs ws ns due bz) (z : sm g k S) (hS : ∀ a ∈ XS, a ∉ S) : EX k b at_ en vs ws ns due bz := by
  obtain ⟨h0, h1, h2, h4, h6, h7, h8, h9, hi, hr⟩ := h
  have a1 := hS 997 (by decide)
  exact ⟨by rw [z.R a1]; exact h0, by rw [z.I a1]; exact h1, by rw [z.I a1]; exact h2, by rw [z.I a1]; exact h4, by rw [z.I a1]; exact h6, by rw [z.I a1]; exact h7, by rw [z.I a1]; exact h8, by rw [z.I a1]; exact h9, stI_same (fun j _ => z.I (hS 1000 (by decide)) j) hi, stR_same (fun j _ => z.R (hS 1001 (by decide)) j) hr⟩
theorem EX.at_ {g : mu_T} {b at_ en : Nat} {vs : List Int32} {ws : List Nat} {ns : Nat} {due bz : Bool} (x : Nat) (h : EX g b at_ en vs ws ns due bz) : EX (xI g 997 1 (nI x)) b x en vs ws ns due bz := by
  obtain ⟨h0, h1, h2, h4, h6, h7, h8, h9, hi, hr⟩ := h
  exact ⟨h0, gI_eq _ _ _ _, (gI_nk (by decide)).trans h2, (gI_nk (by decide)).trans h4, (gI_nk (by decide)).trans h6, (gI_nk (by decide)).trans h7, (gI_nk (by decide)).trans h8, (gI_nk (by decide)).trans h9, stI_same (fun j _ => gI_na (by decide)) hi, hr⟩
theorem EX.ns_ {g : mu_T} {b at_ en : Nat} {vs : List Int32} {ws : List Nat} {ns : Nat} {due bz : Bool} (x : Nat) (h : EX g b at_ en vs ws ns due bz) : EX (xI g 997 7 (nI x)) b at_ en vs ws x due bz := by
  obtain ⟨h0, h1, h2, h4, h6, h7, h8, h9, hi, hr⟩ := h
  exact ⟨h0, (gI_nk (by decide)).trans h1, (gI_nk (by decide)).trans h2, (gI_nk (by decide)).trans h4, (gI_nk (by decide)).trans h6, gI_eq _ _ _ _, (gI_nk (by decide)).trans h8, (gI_nk (by decide)).trans h9, stI_same (fun j _ => gI_na (by decide)) hi, hr⟩
theorem EX.due_ {g : mu_T} {b at_ en : Nat} {vs : List Int32} {ws : List Nat} {ns : Nat} {due bz : Bool} (x : Bool) (h : EX g b at_ en vs ws ns due bz) : EX (xI g 997 8 (if x = true then 1 else 0)) b at_ en vs ws ns x bz := by
  obtain ⟨h0, h1, h2, h4, h6, h7, h8, h9, hi, hr⟩ := h
  exact ⟨h0, (gI_nk (by decide)).trans h1, (gI_nk (by decide)).trans h2, (gI_nk (by decide)).trans h4, (gI_nk (by decide)).trans h6, (gI_nk (by decide)).trans h7, gI_eq _ _ _ _, (gI_nk (by decide)).trans h9, stI_same (fun j _ => gI_na (by decide)) hi, hr⟩
theorem EX.bz_ {g : mu_T} {b at_ en : Nat} {vs : List Int32} {ws : List Nat} {ns : Nat} {due bz : Bool} (x : Bool) (h : EX g b at_ en vs ws ns due bz) : EX (xI g 997 9 (if x = true then 1 else 0)) b at_ en vs ws ns due x := by
  obtain ⟨h0, h1, h2, h4, h6, h7, h8, h9, hi, hr⟩ := h
  exact ⟨h0, (gI_nk (by decide)).trans h1, (gI_nk (by decide)).trans h2, (gI_nk (by decide)).trans h4, (gI_nk (by decide)).trans h6, (gI_nk (by decide)).trans h7, (gI_nk (by decide)).trans h8, gI_eq _ _ _ _, stI_same (fun j _ => gI_na (by decide)) hi, hr⟩
theorem EX.wpop {g : mu_T} {b at_ en : Nat} {vs : List Int32} {ws : List Nat} {ns : Nat} {due bz : Bool} {x : Nat} (h : EX g b at_ en vs (x :: ws) ns due bz) : EX (xI g 997 6 (nI ws.length)) b at_ en vs ws ns due bz := by
  obtain ⟨h0, h1, h2, h4, h6, h7, h8, h9, hi, hr⟩ := h
  exact ⟨h0, (gI_nk (by decide)).trans h1, (gI_nk (by decide)).trans h2, (gI_nk (by decide)).trans h4, gI_eq _ _ _ _, (gI_nk (by decide)).trans h7, (gI_nk (by decide)).trans h8, (gI_nk (by decide)).trans h9, stI_same (fun j _ => gI_na (by decide)) hi, hr.2⟩
theorem EX.vpop {g : mu_T} {b at_ en : Nat} {vs : List Int32} {ws : List Nat} {ns : Nat} {due bz : Bool} {x : Int32} (h : EX g b at_ en (x :: vs) ws ns due bz) : EX (xI g 997 4 (nI vs.length)) b at_ en vs ws ns due bz := by
  obtain ⟨h0, h1, h2, h4, h6, h7, h8, h9, hi, hr⟩ := h
  exact ⟨h0, (gI_nk (by decide)).trans h1, (gI_nk (by decide)).trans h2, gI_eq _ _ _ _, (gI_nk (by decide)).trans h6, (gI_nk (by decide)).trans h7, (gI_nk (by decide)).trans h8, (gI_nk (by decide)).trans h9, stI_same (fun j _ => gI_na (by decide)) hi.2, hr⟩
theorem EX.vset {g : mu_T} {b at_ en : Nat} {vs : List Int32} {ws : List Nat} {ns : Nat} {due bz : Bool} {x : Int32} (y : Int32) (h : EX g b at_ en (x :: vs) ws ns due bz) : EX (xI g 1000 vs.length y) b at_ en (y :: vs) ws ns due bz := by
  obtain ⟨h0, h1, h2, h4, h6, h7, h8, h9, hi, hr⟩ := h
  exact ⟨h0, (gI_na (by decide)).trans h1, (gI_na (by decide)).trans h2, (gI_na (by decide)).trans h4, (gI_na (by decide)).trans h6, (gI_na (by decide)).trans h7, (gI_na (by decide)).trans h8, (gI_na (by decide)).trans h9, ⟨gI_eq _ _ _ _, stI_same (fun j hj => gI_nk (by omega)) hi.2⟩, hr⟩
theorem EX.vpush {g : mu_T} {b at_ en : Nat} {vs : List Int32} {ws : List Nat} {ns : Nat} {due bz : Bool} (y : Int32) (h : EX g b at_ en vs ws ns due bz) : EX (xI (xI g 1000 vs.length y) 997 4 (nI (vs.length + 1))) b at_ en (y :: vs) ws ns due bz := by
  obtain ⟨h0, h1, h2, h4, h6, h7, h8, h9, hi, hr⟩ := h
  exact ⟨h0, (gI_nk (by decide)).trans ((gI_na (by decide)).trans h1), (gI_nk (by decide)).trans ((gI_na (by decide)).trans h2), gI_eq _ _ _ _, (gI_nk (by decide)).trans ((gI_na (by decide)).trans h6), (gI_nk (by decide)).trans ((gI_na (by decide)).trans h7), (gI_nk (by decide)).trans ((gI_na (by decide)).trans h8), (gI_nk (by decide)).trans ((gI_na (by decide)).trans h9), ⟨(gI_na (by decide)).trans (gI_eq _ _ _ _), stI_same (fun j hj => (gI_na (by decide)).trans (gI_nk (by omega))) hi⟩, hr⟩
theorem EX.wpush {g : mu_T} {b at_ en : Nat} {vs : List Int32} {ws : List Nat} {ns : Nat} {due bz : Bool} (y : Nat) (h : EX g b at_ en vs ws ns due bz) : EX (xI (xR g 1001 ws.length (some (1048600 + y))) 997 6 (nI (ws.length + 1))) b at_ en vs (y :: ws) ns due bz := by
  obtain ⟨h0, h1, h2, h4, h6, h7, h8, h9, hi, hr⟩ := h
  exact ⟨(show gR (xR g 1001 ws.length (some (1048600 + y))) 997 0 = some b from (xRs (Or.inl (by decide))).trans h0), (gI_nk (by decide)).trans h1, (gI_nk (by decide)).trans h2, (gI_nk (by decide)).trans h4, gI_eq _ _ _ _, (gI_nk (by decide)).trans h7, (gI_nk (by decide)).trans h8, (gI_nk (by decide)).trans h9, stI_same (fun j _ => gI_na (by decide)) hi, ⟨gR_eq _ _ _ _, stR_same (fun j hj => xRs (Or.inr (by omega))) hr⟩⟩
set_option maxHeartbeats 4000000 in
set_option maxRecDepth 100000 in
theorem k_Ex_begin (l : Launch) (q : ev_T) {b st en : Nat} {g : mu_T} (hS : Shp g) : Ctr l q M_Ex_begin 0 [.ref 997, .ref b, .int (nI st), .int (nI en)] (0, 0, g) (fun v w => v = none ∧ sm g w.2.2 XS ∧ EX w.2.2 b st en [] [] 0 true false) := by

  refine Ctr.mk (lb := [some (.ref 997), some (.ref b), some (.int (nI st)), some (.int (nI en))]) (by decide +kernel) (Nat.le_of_ble_eq_true rfl) rfl rfl ?_
  intro pp ee ss mm aa bb mt cd X hrt hlk hnm
  refine v_aload_n X (dk D_Ex_begin 0 rfl) rfl ?_
  refine v_aload_n X (dk D_Ex_begin 1 rfl) rfl ?_
  refine v_putR (r := some b) X (dk D_Ex_begin 2 rfl) F_Ex_14 CK_Ex rfl rfl (hS.lt (by decide)) ⟨_, rfl⟩ ?_
  refine v_aload_n X (dk D_Ex_begin 3 rfl) rfl ?_
  refine v_iload_n X (dk D_Ex_begin 4 rfl) rfl ?_
  refine v_putI X (dk D_Ex_begin 5 rfl) F_Ex_34 CK_Ex rfl rfl (hS.lt (by decide)) rfl rfl ?_
  refine v_aload_n X (dk D_Ex_begin 6 rfl) rfl ?_
  refine v_iload_n X (dk D_Ex_begin 7 rfl) rfl ?_
  refine v_putI X (dk D_Ex_begin 8 rfl) F_Ex_38 CK_Ex rfl rfl (hS.lt (by decide)) rfl rfl ?_
  refine v_aload_n X (dk D_Ex_begin 9 rfl) rfl ?_
  refine v_iconst (v := nI 0) X (dk D_Ex_begin 10 rfl) (by decide) ?_
  refine v_putI X (dk D_Ex_begin 11 rfl) F_Ex_74 CK_Ex rfl rfl (hS.lt (by decide)) rfl rfl ?_
  refine v_aload_n X (dk D_Ex_begin 12 rfl) rfl ?_
  refine v_iconst (v := nI 0) X (dk D_Ex_begin 13 rfl) (by decide) ?_
  refine v_putI X (dk D_Ex_begin 14 rfl) F_Ex_71 CK_Ex rfl rfl (hS.lt (by decide)) rfl rfl ?_
  refine v_aload_n X (dk D_Ex_begin 15 rfl) rfl ?_
  refine v_iconst (v := nI 0) X (dk D_Ex_begin 16 rfl) (by decide) ?_
  refine v_putI X (dk D_Ex_begin 17 rfl) F_Ex_83 CK_Ex rfl rfl (hS.lt (by decide)) rfl rfl ?_
  refine v_aload_n X (dk D_Ex_begin 18 rfl) rfl ?_
  refine v_iconst (v := 1) X (dk D_Ex_begin 19 rfl) (by decide) ?_
  refine v_putI X (dk D_Ex_begin 20 rfl) F_Ex_48 CK_Ex rfl rfl (hS.lt (by decide)) rfl rfl ?_
  refine v_aload_n X (dk D_Ex_begin 21 rfl) rfl ?_
  refine v_iconst (v := 0) X (dk D_Ex_begin 22 rfl) (by decide) ?_
  refine v_putI X (dk D_Ex_begin 23 rfl) F_Ex_77 CK_Ex rfl rfl (hS.lt (by decide)) rfl rfl ?_
  exact v_vret X hlk hrt (dk D_Ex_begin 24 rfl) ⟨rfl, ((((((((sm.rf g _).xR (by decide)).xI (by decide)).xI (by decide)).xI (by decide)).xI (by decide)).xI (by decide)).xI (by decide)).xI (by decide), (show gR (xR g 997 0 (some b)) 997 0 = some b from gR_eq _ _ _ _), by rw [gI_nk (by decide), gI_nk (by decide), gI_nk (by decide), gI_nk (by decide), gI_nk (by decide), gI_nk (by decide), gI_eq], by rw [gI_nk (by decide), gI_nk (by decide), gI_nk (by decide), gI_nk (by decide), gI_nk (by decide), gI_eq], by rw [gI_nk (by decide), gI_nk (by decide), gI_nk (by decide), gI_nk (by decide), gI_eq]; rfl, by rw [gI_nk (by decide), gI_nk (by decide), gI_nk (by decide), gI_eq]; rfl, by rw [gI_nk (by decide), gI_nk (by decide), gI_eq], by rw [gI_nk (by decide), gI_eq]; rfl, by rw [gI_eq]; rfl, trivial, trivial⟩
set_option maxHeartbeats 4000000 in
set_option maxRecDepth 100000 in
theorem k_await (l : Launch) (q : ev_T) {o : Nat} {b at_ en : Nat} {vs : List Int32} {ws : List Nat} {ns : Nat} {due bz : Bool} {g : mu_T} (hS : Shp g) (hE : EX g b at_ en vs ws ns due bz) (ho : o < 23) (hl : ws.length < 341) : Ctr l q M_Ex_await 0 [.ref 997, .ref (1048600 + o)] (0, 0, g) (fun v w => v = some (.int 1) ∧ sm g w.2.2 XS ∧ EX w.2.2 b at_ en vs (o :: ws) ns due bz) := by

  refine Ctr.mk (lb := [some (.ref 997), some (.ref (1048600 + o))]) (by decide +kernel) (Nat.le_of_ble_eq_true rfl) rfl rfl ?_
  intro pp ee ss mm aa bb mt cd X hrt hlk hnm
  refine v_aload_n X (dk D_Ex_await 0 rfl) rfl ?_
  refine v_getI X (dk D_Ex_await 1 rfl) F_Ex_71 rfl rfl (hS.lt (by decide)) ?_
  refine v_if_lt (tgt := 19) X (dk D_Ex_await 2 rfl) (by decide) (fun c4 => absurd c4 (by rw [hE.2.2.2.2.1]; exact nI_pos (by omega))) (fun _ => ?_)
  refine v_aload_n X (dk D_Ex_await 3 rfl) rfl ?_
  refine v_getI X (dk D_Ex_await 4 rfl) F_Ex_71 rfl rfl (hS.lt (by decide)) ?_
  refine v_aload_n X (dk D_Ex_await 5 rfl) rfl ?_
  refine v_getF X (dk D_Ex_await 6 rfl) F_Ex_26 rfl rfl (hS.lt (by decide)) (hS.2 997 5) ?_
  refine v_alen (v := nI _) X (dk D_Ex_await 7 rfl) rfl rfl (hS.lt (by decide)) rfl ?_
  refine v_icmp_lt (tgt := 21) X (dk D_Ex_await 8 rfl) (by decide) (fun _ => ?_) (fun c16 => absurd (by rw [hE.2.2.2.2.1]; exact nI_lt hl (by decide)) c16)
  refine v_aload_n X (dk D_Ex_await 11 rfl) rfl ?_
  refine v_getF X (dk D_Ex_await 12 rfl) F_Ex_26 rfl rfl (hS.lt (by decide)) (hS.2 997 5) ?_
  refine v_aload_n X (dk D_Ex_await 13 rfl) rfl ?_
  refine v_getI X (dk D_Ex_await 14 rfl) F_Ex_71 rfl rfl (hS.lt (by decide)) ?_
  refine v_aload_n X (dk D_Ex_await 15 rfl) rfl ?_
  refine v_aastS X (dk D_Ex_await 16 rfl) rfl rfl (by decide) (hS.lt (by decide)) (by rw [hE.2.2.2.2.1]; exact vp_in_nI hl (by decide)) (X.sf.2.1 o ho).1 ?_
  rw [hE.2.2.2.2.1, nI_clamp (by omega)]
  refine v_aload_n X (dk D_Ex_await 17 rfl) rfl ?_
  refine v_dup X (dk D_Ex_await 18 rfl) rfl ?_
  refine v_getI X (dk D_Ex_await 19 rfl) F_Ex_71 rfl rfl (hS.lt (by decide)) ?_
  refine v_iconst (v := 1) X (dk D_Ex_await 20 rfl) (by decide) ?_
  refine v_iadd X (dk D_Ex_await 21 rfl) ?_
  rw [show gI (xR g 1001 ws.length (some (1048600 + o))) 997 6 = nI ws.length from hE.2.2.2.2.1, nI_1]
  refine v_putI X (dk D_Ex_await 22 rfl) F_Ex_71 CK_Ex rfl rfl (hS.lt (by decide)) rfl rfl ?_
  refine v_iconst (v := 1) X (dk D_Ex_await 23 rfl) (by decide) ?_
  exact v_zret X hlk hrt rfl (dk D_Ex_await 24 rfl) ⟨rfl, ((sm.rf g _).xR (by decide)).xI (by decide), EX.wpush o hE⟩
theorem sm_bz {g k : mu_T} {o : Nat} {b : Int32} {bz : Bool} (h : k = if o = 16 ∨ o = 17 then xI g 997 9 (if (bz || decide (b = 0)) = true then 1 else 0) else g) : sm g k XS := by
  rw [h]
  split
  · exact (sm.rf g _).xI (by decide)
  · exact sm.rf g _
theorem bz_step {g k : mu_T} {o e at_ en : Nat} {vs : List Int32} {ws : List Nat} {ns : Nat} {due bz : Bool} {b : Int32} (hE : EX g e at_ en vs ws ns due bz) (h : k = if o = 16 ∨ o = 17 then xI g 997 9 (if (bz || decide (b = 0)) = true then 1 else 0) else g) : EX k e at_ en vs ws ns due (bz || bzT o b) := by
  rw [h, bzT]
  by_cases c : o = 16 ∨ o = 17
  · rw [if_pos c, decide_eq_true c, Bool.true_and]
    exact hE.bz_ _
  · rw [if_neg c, decide_eq_false c, Bool.false_and, Bool.or_false]
    exact hE
set_option maxHeartbeats 4000000 in
set_option maxRecDepth 100000 in
theorem k_reckon (l : Launch) (q : ev_T) {s : Int32} {b at_ en : Nat} {vs0 : List Int32} {ws0 : List Nat} {due bz0 : Bool} {g : mu_T} (hS : Shp g) (hE : EX g b at_ en vs0 ws0 (frn ws0) due bz0) (hw : okW ws0) (hf : frn ws0 ≤ 30) (hv : vs0.length = btw ws0 + 1) (hs : 1 ≤ s) : Ctr l q M_Ex_reckon 2 [.ref 997, .int s] (0, 0, g) (fun v w => v = none ∧ sm g w.2.2 XS ∧ EX w.2.2 b at_ en (rck s ws0 vs0 bz0).1 (rck s ws0 vs0 bz0).2.1 (frn (rck s ws0 vs0 bz0).2.1) due (rck s ws0 vs0 bz0).2.2) := by

  refine Ctr.mk (lb := [some (.ref 997), some (.int s), none, none]) (by decide +kernel) (Nat.le_of_ble_eq_true rfl) rfl rfl ?_
  intro pp ee ss mm aa bb mt cd X hrt hlk hnm
  have loop : ∀ (ws : List Nat) (vs : List Int32) (u : mu_T) (bz : Bool), EX u b at_ en vs ws (frn ws) due bz → sm g u XS → Shp u → okW ws → frn ws ≤ 30 → vs.length = btw ws + 1 → (rck s ws0 vs0 bz0) = rck s ws vs bz → Vv pp l ee (rmT 2 0 0) ss mm aa bb mt cd 4 q (MQ bb (Qw q (fun v w => v = none ∧ sm g w.2.2 XS ∧ EX w.2.2 b at_ en (rck s ws0 vs0 bz0).1 (rck s ws0 vs0 bz0).2.1 (frn (rck s ws0 vs0 bz0).2.1) due (rck s ws0 vs0 bz0).2.2)) aa ss 0 0 (fun a => q.1 ≤ a)) 0 [some (.ref 997), some (.int s), none, none] [] (0, 0, u) := by
    intro ws
    induction ws with
    | nil =>
      intro vs u bz hE zu hSu hw hf hv hrc
      have hrc : rck s ws0 vs0 bz0 = (vs, [], bz) := by rw [hrc]; cases vs <;> rfl
      refine v_aload_n X (dk D_Ex_reckon 0 rfl) rfl ?_
      refine v_getI X (dk D_Ex_reckon 1 rfl) F_Ex_71 rfl rfl (hSu.lt (by decide)) ?_
      refine v_if_le (tgt := 172) X (dk D_Ex_reckon 2 rfl) (by decide) (fun _ => ?_) (fun c4 => absurd (by rw [hE.2.2.2.2.1]; decide) c4)
      exact v_vret X hlk hrt (dk D_Ex_reckon 98 rfl) ⟨rfl, zu, by rw [hrc]; exact hE⟩
    | cons o ws ih =>
      intro vs u bz hE zu hSu hw hf hv hrc
      have ho : o < 23 := hw.1
      have hlen := okW_340 hw hf
      rw [List.length_cons] at hlen
      have hbl := btw_le (o :: ws)
      rw [List.length_cons] at hbl
      have z1 : sm u (xI u 997 6 (nI ws.length)) [997] := (sm.rf _ _).xI (by simp)
      cases vs with
      | nil => rw [List.length_nil] at hv; omega
      | cons v vs =>
      rw [List.length_cons] at hv
      by_cases c : opS o < s
      · refine v_aload_n X (dk D_Ex_reckon 0 rfl) rfl ?_
        refine v_getI X (dk D_Ex_reckon 1 rfl) F_Ex_71 rfl rfl (hSu.lt (by decide)) ?_
        refine v_if_le (tgt := 172) X (dk D_Ex_reckon 2 rfl) (by decide) (fun c4 => absurd c4 (by rw [hE.2.2.2.2.1]; exact nI_nle (by simp) (by rw [List.length_cons]; omega))) (fun _ => ?_)
        refine v_aload_n X (dk D_Ex_reckon 3 rfl) rfl ?_
        refine v_getI X (dk D_Ex_reckon 4 rfl) F_Ex_71 rfl rfl (hSu.lt (by decide)) ?_
        refine v_aload_n X (dk D_Ex_reckon 5 rfl) rfl ?_
        refine v_getF X (dk D_Ex_reckon 6 rfl) F_Ex_26 rfl rfl (hSu.lt (by decide)) (hSu.2 997 5) ?_
        refine v_alen (v := nI _) X (dk D_Ex_reckon 7 rfl) rfl rfl (hSu.lt (by decide)) rfl ?_
        refine v_icmp_gt (tgt := 172) X (dk D_Ex_reckon 8 rfl) (by decide) (fun c16 => absurd c16 (by rw [hE.2.2.2.2.1]; exact nI_nlt (a := 341) (by rw [List.length_cons]; omega) (by decide))) (fun _ => ?_)
        refine v_aload_n X (dk D_Ex_reckon 9 rfl) rfl ?_
        refine v_getF X (dk D_Ex_reckon 10 rfl) F_Ex_26 rfl rfl (hSu.lt (by decide)) (hSu.2 997 5) ?_
        refine v_aload_n X (dk D_Ex_reckon 11 rfl) rfl ?_
        refine v_getI X (dk D_Ex_reckon 12 rfl) F_Ex_71 rfl rfl (hSu.lt (by decide)) ?_
        refine v_iconst (v := 1) X (dk D_Ex_reckon 13 rfl) (by decide) ?_
        refine v_isub X (dk D_Ex_reckon 14 rfl) ?_
        rw [hE.2.2.2.2.1, List.length_cons, nI_pred]
        refine v_aald (r := some (1048600 + o)) X (dk D_Ex_reckon 15 rfl) rfl rfl (by decide) (hSu.lt (by decide)) (vp_in_nI (show ws.length < 341 by omega) (by decide)) (by rw [nI_clamp (by omega)]; exact hE.2.2.2.2.2.2.2.2.2.1) ?_
        refine v_astore_n (lb := [some (.ref 997), some (.int s), some (.ref (1048600 + o)), none]) X (dk D_Ex_reckon 16 rfl) (by decide) rfl ?_
        refine v_aload_n X (dk D_Ex_reckon 17 rfl) rfl ?_
        refine v_ifnull X (dk D_Ex_reckon 18 rfl) ?_
        refine v_aload_n X (dk D_Ex_reckon 19 rfl) rfl ?_
        refine v_sget (v := .int (opS o)) X (dk D_Ex_reckon 20 rfl) Z_Ex_114 (X.sf.2.1 o ho).2.2.1 ?_
        refine v_iload_n X (dk D_Ex_reckon 21 rfl) rfl ?_
        refine v_icmp_ge (tgt := 44) X (dk D_Ex_reckon 22 rfl) (by decide) (fun c40 => absurd c40 (fun z => absurd c (Int32.not_lt.mpr z))) (fun _ => ?_)
        exact v_vret X hlk hrt (dk D_Ex_reckon 23 rfl) ⟨rfl, zu, by rw [hrc, rck_c, if_pos c]; exact hE⟩
      · by_cases hfo : 18 ≤ o
        · have hf22 : o < 22 := by rcases opS_fr o ho hfo with h | h; exact h.2; rw [h] at c; exact absurd (show opS 22 < s from Int32.lt_of_lt_of_le (show opS 22 < 1 by decide) hs) c
          have hfr : frn ws ≤ 30 := by rw [frn] at hf; omega
          have hbt : btw (o :: ws) = btw ws := by rw [btw, if_pos hfo]; omega
          have z2 : sm (xI u 997 6 (nI ws.length)) (xI (xI u 997 6 (nI ws.length)) 997 7 (nI (frn ws))) [997] := (sm.rf _ _).xI (by simp)
          have z3 : sm (xI (xI u 997 6 (nI ws.length)) 997 7 (nI (frn ws))) (xI (xI (xI u 997 6 (nI ws.length)) 997 7 (nI (frn ws))) 1000 vs.length (ofO o v)) [1000] := (sm.rf _ _).xI (by simp)
          refine v_aload_n X (dk D_Ex_reckon 0 rfl) rfl ?_
          refine v_getI X (dk D_Ex_reckon 1 rfl) F_Ex_71 rfl rfl (hSu.lt (by decide)) ?_
          refine v_if_le (tgt := 172) X (dk D_Ex_reckon 2 rfl) (by decide) (fun c4 => absurd c4 (by rw [hE.2.2.2.2.1]; exact nI_nle (by simp) (by rw [List.length_cons]; omega))) (fun _ => ?_)
          refine v_aload_n X (dk D_Ex_reckon 3 rfl) rfl ?_
          refine v_getI X (dk D_Ex_reckon 4 rfl) F_Ex_71 rfl rfl (hSu.lt (by decide)) ?_
          refine v_aload_n X (dk D_Ex_reckon 5 rfl) rfl ?_
          refine v_getF X (dk D_Ex_reckon 6 rfl) F_Ex_26 rfl rfl (hSu.lt (by decide)) (hSu.2 997 5) ?_
          refine v_alen (v := nI _) X (dk D_Ex_reckon 7 rfl) rfl rfl (hSu.lt (by decide)) rfl ?_
          refine v_icmp_gt (tgt := 172) X (dk D_Ex_reckon 8 rfl) (by decide) (fun c16 => absurd c16 (by rw [hE.2.2.2.2.1]; exact nI_nlt (a := 341) (by rw [List.length_cons]; omega) (by decide))) (fun _ => ?_)
          refine v_aload_n X (dk D_Ex_reckon 9 rfl) rfl ?_
          refine v_getF X (dk D_Ex_reckon 10 rfl) F_Ex_26 rfl rfl (hSu.lt (by decide)) (hSu.2 997 5) ?_
          refine v_aload_n X (dk D_Ex_reckon 11 rfl) rfl ?_
          refine v_getI X (dk D_Ex_reckon 12 rfl) F_Ex_71 rfl rfl (hSu.lt (by decide)) ?_
          refine v_iconst (v := 1) X (dk D_Ex_reckon 13 rfl) (by decide) ?_
          refine v_isub X (dk D_Ex_reckon 14 rfl) ?_
          rw [hE.2.2.2.2.1, List.length_cons, nI_pred]
          refine v_aald (r := some (1048600 + o)) X (dk D_Ex_reckon 15 rfl) rfl rfl (by decide) (hSu.lt (by decide)) (vp_in_nI (show ws.length < 341 by omega) (by decide)) (by rw [nI_clamp (by omega)]; exact hE.2.2.2.2.2.2.2.2.2.1) ?_
          refine v_astore_n (lb := [some (.ref 997), some (.int s), some (.ref (1048600 + o)), none]) X (dk D_Ex_reckon 16 rfl) (by decide) rfl ?_
          refine v_aload_n X (dk D_Ex_reckon 17 rfl) rfl ?_
          refine v_ifnull X (dk D_Ex_reckon 18 rfl) ?_
          refine v_aload_n X (dk D_Ex_reckon 19 rfl) rfl ?_
          refine v_sget (v := .int (opS o)) X (dk D_Ex_reckon 20 rfl) Z_Ex_114 (X.sf.2.1 o ho).2.2.1 ?_
          refine v_iload_n X (dk D_Ex_reckon 21 rfl) rfl ?_
          refine v_icmp_ge (tgt := 44) X (dk D_Ex_reckon 22 rfl) (by decide) (fun _ => ?_) (fun c40 => absurd (Int32.not_lt.mp c) c40)
          refine v_aload_n X (dk D_Ex_reckon 24 rfl) rfl ?_
          refine v_getI X (dk D_Ex_reckon 25 rfl) F_Ex_74 rfl rfl (hSu.lt (by decide)) ?_
          refine v_iconst (v := 1) X (dk D_Ex_reckon 26 rfl) (by decide) ?_
          refine v_icmp_lt (tgt := 64) X (dk D_Ex_reckon 27 rfl) (by decide) (fun c49 => absurd c49 (by rw [hE.2.2.2.1]; exact nI_nlt (b := 1) (by simp) (by simp; omega))) (fun _ => ?_)
          refine v_aload_n X (dk D_Ex_reckon 28 rfl) rfl ?_
          refine v_getI X (dk D_Ex_reckon 29 rfl) F_Ex_74 rfl rfl (hSu.lt (by decide)) ?_
          refine v_aload_n X (dk D_Ex_reckon 30 rfl) rfl ?_
          refine v_getF X (dk D_Ex_reckon 31 rfl) F_Ex_20 rfl rfl (hSu.lt (by decide)) (hSu.2 997 3) ?_
          refine v_alen (v := nI _) X (dk D_Ex_reckon 32 rfl) rfl rfl (hSu.lt (by decide)) rfl ?_
          refine v_icmp_le (tgt := 65) X (dk D_Ex_reckon 33 rfl) (by decide) (fun _ => ?_) (fun c61 => absurd (by rw [hE.2.2.2.1]; exact nI_le (b := 342) (by simp; omega) (by decide)) c61)
          refine v_aload_n X (dk D_Ex_reckon 35 rfl) rfl ?_
          refine v_dup X (dk D_Ex_reckon 36 rfl) rfl ?_
          refine v_getI X (dk D_Ex_reckon 37 rfl) F_Ex_71 rfl rfl (hSu.lt (by decide)) ?_
          refine v_iconst (v := 1) X (dk D_Ex_reckon 38 rfl) (by decide) ?_
          refine v_isub X (dk D_Ex_reckon 39 rfl) ?_
          rw [hE.2.2.2.2.1, List.length_cons, nI_pred]
          refine v_putI X (dk D_Ex_reckon 40 rfl) F_Ex_71 CK_Ex rfl rfl (hSu.lt (by decide)) rfl rfl ?_
          refine v_aload_n X (dk D_Ex_reckon 41 rfl) rfl ?_
          refine v_getF X (dk D_Ex_reckon 42 rfl) F_Ex_20 rfl rfl (hSu.lt (by decide)) (hSu.2 997 3) ?_
          refine v_aload_n X (dk D_Ex_reckon 43 rfl) rfl ?_
          refine v_getI X (dk D_Ex_reckon 44 rfl) F_Ex_74 rfl rfl (hSu.lt (by decide)) ?_
          refine v_iconst (v := 1) X (dk D_Ex_reckon 45 rfl) (by decide) ?_
          refine v_isub X (dk D_Ex_reckon 46 rfl) ?_
          rw [gI_nk (by decide), hE.2.2.2.1, List.length_cons, nI_pred]
          refine v_iald X (dk D_Ex_reckon 47 rfl) rfl (hSu.lt (by decide)) (vp_in_nI (show vs.length < 342 by omega) (by decide)) ?_
          rw [nI_clamp (by first | omega | (simp only [List.length_cons]; omega)), gI_na (by decide), hE.2.2.2.2.2.2.2.2.1.1]
          refine v_istore_n (lb := [some (.ref 997), some (.int s), some (.ref (1048600 + o)), some (.int v)]) X (dk D_Ex_reckon 48 rfl) (by decide) rfl ?_
          refine v_aload_n X (dk D_Ex_reckon 49 rfl) rfl ?_
          refine v_invVS (b := (1048600 + o)) (As := []) (st := []) X (c_isBetween l q ho) (dk D_Ex_reckon 50 rfl) g_Ex_130 K_Op_isBetween V_Op_isBetween (X.sf.2.1 o ho).1 rfl rfl (Nat.le_of_ble_eq_true rfl) (Nat.le_of_ble_eq_true rfl) (Nat.le_of_ble_eq_true rfl) (Nat.le_of_ble_eq_true rfl) (Nat.le_of_ble_eq_true rfl) ?_
          rintro v w ⟨rfl, hw9⟩
          rw [hw9, if_neg (by omega)]
          show Vv _ _ _ _ _ _ _ _ _ _ _ _ _ _ _ [.int 0] (0, 0, (xI u 997 6 (nI ws.length)))
          refine v_if_ne (tgt := 123) X (dk D_Ex_reckon 51 rfl) (by decide) (fun c91 => absurd rfl c91) (fun _ => ?_)
          refine v_aload_n X (dk D_Ex_reckon 52 rfl) rfl ?_
          refine v_dup X (dk D_Ex_reckon 53 rfl) rfl ?_
          refine v_getI X (dk D_Ex_reckon 54 rfl) F_Ex_83 rfl rfl (hSu.lt (by decide)) ?_
          refine v_iconst (v := 1) X (dk D_Ex_reckon 55 rfl) (by decide) ?_
          refine v_isub X (dk D_Ex_reckon 56 rfl) ?_
          rw [show gI (xI u 997 6 (nI ws.length)) 997 7 = nI (frn ws + 1) from (gI_nk (by decide)).trans (by rw [hE.2.2.2.2.2.1, frn, if_pos hfo, Nat.add_comm]), nI_pred]
          refine v_putI X (dk D_Ex_reckon 57 rfl) F_Ex_83 CK_Ex rfl rfl (hSu.lt (by decide)) rfl rfl ?_
          refine v_aload_n X (dk D_Ex_reckon 58 rfl) rfl ?_
          refine v_getF X (dk D_Ex_reckon 59 rfl) F_Ex_20 rfl rfl (hSu.lt (by decide)) (hSu.2 997 3) ?_
          refine v_aload_n X (dk D_Ex_reckon 60 rfl) rfl ?_
          refine v_getI X (dk D_Ex_reckon 61 rfl) F_Ex_74 rfl rfl (hSu.lt (by decide)) ?_
          refine v_iconst (v := 1) X (dk D_Ex_reckon 62 rfl) (by decide) ?_
          refine v_isub X (dk D_Ex_reckon 63 rfl) ?_
          rw [show gI (xI (xI u 997 6 (nI ws.length)) 997 7 (nI (frn ws))) 997 4 = nI (vs.length + 1) from (gI_nk (by decide)).trans ((gI_nk (by decide)).trans hE.2.2.2.1), nI_pred]
          refine v_aload_n X (dk D_Ex_reckon 64 rfl) rfl ?_
          refine v_iload_n X (dk D_Ex_reckon 65 rfl) rfl ?_
          refine v_invS (As := [.ref (1048600 + o), .int v]) (st := [.int (nI vs.length), .ref 1000]) X (c_ofOne l q (x := v) (g := (xI (xI u 997 6 (nI ws.length)) 997 7 (nI (frn ws)))) hfo hf22) (dk D_Ex_reckon 66 rfl) G_Ex_141 K_Ex_ofOne S_Ex_ofOne rfl rfl (Nat.le_of_ble_eq_true rfl) (Nat.le_of_ble_eq_true rfl) (Nat.le_of_ble_eq_true rfl) (Nat.le_of_ble_eq_true rfl) (Nat.le_of_ble_eq_true rfl) ?_
          rintro v2 w2 ⟨rfl, hw9⟩
          rw [hw9]
          show Vv _ _ _ _ _ _ _ _ _ _ _ _ _ _ _ [.int (ofO o v), .int (nI vs.length), .ref 1000] (0, 0, (xI (xI u 997 6 (nI ws.length)) 997 7 (nI (frn ws))))
          refine v_iast X (dk D_Ex_reckon 67 rfl) rfl (hSu.lt (by decide)) (vp_in_nI (show vs.length < 342 by omega) (by decide)) ?_
          rw [nI_clamp (by omega)]
          refine v_goto (tgt := 169) X (dk D_Ex_reckon 68 rfl) (by decide) ?_
          refine v_goto (tgt := 0) X (dk D_Ex_reckon 97 rfl) (by decide) ?_
          exact v_weak (la := [some (.ref 997), some (.int s), none, none]) ⟨rfl, rfl, trivial⟩ (ih (ofO o v :: vs) _ bz ((((hE.wpop).ns_ (frn ws)).vset (ofO o v))) (((zu.xI (by decide)).xI (by decide)).xI (by decide)) (((hSu.sm z1).sm z2).sm z3) hw.2.1 (by omega) (by simp only [List.length_cons] at hv ⊢; omega) (by rw [hrc, rck_c, if_neg c, if_pos hfo]))
        · have hbo : o < 18 := by omega
          have hfr : frn (o :: ws) = frn ws := by rw [frn, if_neg hfo]; omega
          have hbt : btw (o :: ws) = btw ws + 1 := by rw [btw, if_neg hfo]; omega
          cases vs with
          | nil => rw [List.length_nil] at hv; omega
          | cons a vs =>
          rw [List.length_cons] at hv
          have hE1 := (hE.wpop).vpop
          have hE1 : EX (xI (xI u 997 6 (nI ws.length)) 997 4 (nI (vs.length + 1))) b at_ en (a :: vs) ws (frn ws) due bz := by rw [hfr] at hE1; exact hE1
          have z4 : sm u (xI (xI u 997 6 (nI ws.length)) 997 4 (nI (vs.length + 1))) [997] := ((sm.rf _ _).xI (by simp)).xI (by simp)
          refine v_aload_n X (dk D_Ex_reckon 0 rfl) rfl ?_
          refine v_getI X (dk D_Ex_reckon 1 rfl) F_Ex_71 rfl rfl (hSu.lt (by decide)) ?_
          refine v_if_le (tgt := 172) X (dk D_Ex_reckon 2 rfl) (by decide) (fun c4 => absurd c4 (by rw [hE.2.2.2.2.1]; exact nI_nle (by simp) (by rw [List.length_cons]; omega))) (fun _ => ?_)
          refine v_aload_n X (dk D_Ex_reckon 3 rfl) rfl ?_
          refine v_getI X (dk D_Ex_reckon 4 rfl) F_Ex_71 rfl rfl (hSu.lt (by decide)) ?_
          refine v_aload_n X (dk D_Ex_reckon 5 rfl) rfl ?_
          refine v_getF X (dk D_Ex_reckon 6 rfl) F_Ex_26 rfl rfl (hSu.lt (by decide)) (hSu.2 997 5) ?_
          refine v_alen (v := nI _) X (dk D_Ex_reckon 7 rfl) rfl rfl (hSu.lt (by decide)) rfl ?_
          refine v_icmp_gt (tgt := 172) X (dk D_Ex_reckon 8 rfl) (by decide) (fun c16 => absurd c16 (by rw [hE.2.2.2.2.1]; exact nI_nlt (a := 341) (by rw [List.length_cons]; omega) (by decide))) (fun _ => ?_)
          refine v_aload_n X (dk D_Ex_reckon 9 rfl) rfl ?_
          refine v_getF X (dk D_Ex_reckon 10 rfl) F_Ex_26 rfl rfl (hSu.lt (by decide)) (hSu.2 997 5) ?_
          refine v_aload_n X (dk D_Ex_reckon 11 rfl) rfl ?_
          refine v_getI X (dk D_Ex_reckon 12 rfl) F_Ex_71 rfl rfl (hSu.lt (by decide)) ?_
          refine v_iconst (v := 1) X (dk D_Ex_reckon 13 rfl) (by decide) ?_
          refine v_isub X (dk D_Ex_reckon 14 rfl) ?_
          rw [hE.2.2.2.2.1, List.length_cons, nI_pred]
          refine v_aald (r := some (1048600 + o)) X (dk D_Ex_reckon 15 rfl) rfl rfl (by decide) (hSu.lt (by decide)) (vp_in_nI (show ws.length < 341 by omega) (by decide)) (by rw [nI_clamp (by omega)]; exact hE.2.2.2.2.2.2.2.2.2.1) ?_
          refine v_astore_n (lb := [some (.ref 997), some (.int s), some (.ref (1048600 + o)), none]) X (dk D_Ex_reckon 16 rfl) (by decide) rfl ?_
          refine v_aload_n X (dk D_Ex_reckon 17 rfl) rfl ?_
          refine v_ifnull X (dk D_Ex_reckon 18 rfl) ?_
          refine v_aload_n X (dk D_Ex_reckon 19 rfl) rfl ?_
          refine v_sget (v := .int (opS o)) X (dk D_Ex_reckon 20 rfl) Z_Ex_114 (X.sf.2.1 o ho).2.2.1 ?_
          refine v_iload_n X (dk D_Ex_reckon 21 rfl) rfl ?_
          refine v_icmp_ge (tgt := 44) X (dk D_Ex_reckon 22 rfl) (by decide) (fun _ => ?_) (fun c40 => absurd (Int32.not_lt.mp c) c40)
          refine v_aload_n X (dk D_Ex_reckon 24 rfl) rfl ?_
          refine v_getI X (dk D_Ex_reckon 25 rfl) F_Ex_74 rfl rfl (hSu.lt (by decide)) ?_
          refine v_iconst (v := 1) X (dk D_Ex_reckon 26 rfl) (by decide) ?_
          refine v_icmp_lt (tgt := 64) X (dk D_Ex_reckon 27 rfl) (by decide) (fun c49 => absurd c49 (by rw [hE.2.2.2.1]; exact nI_nlt (b := 1) (by simp) (by simp; omega))) (fun _ => ?_)
          refine v_aload_n X (dk D_Ex_reckon 28 rfl) rfl ?_
          refine v_getI X (dk D_Ex_reckon 29 rfl) F_Ex_74 rfl rfl (hSu.lt (by decide)) ?_
          refine v_aload_n X (dk D_Ex_reckon 30 rfl) rfl ?_
          refine v_getF X (dk D_Ex_reckon 31 rfl) F_Ex_20 rfl rfl (hSu.lt (by decide)) (hSu.2 997 3) ?_
          refine v_alen (v := nI _) X (dk D_Ex_reckon 32 rfl) rfl rfl (hSu.lt (by decide)) rfl ?_
          refine v_icmp_le (tgt := 65) X (dk D_Ex_reckon 33 rfl) (by decide) (fun _ => ?_) (fun c61 => absurd (by rw [hE.2.2.2.1]; exact nI_le (b := 342) (by simp; omega) (by decide)) c61)
          refine v_aload_n X (dk D_Ex_reckon 35 rfl) rfl ?_
          refine v_dup X (dk D_Ex_reckon 36 rfl) rfl ?_
          refine v_getI X (dk D_Ex_reckon 37 rfl) F_Ex_71 rfl rfl (hSu.lt (by decide)) ?_
          refine v_iconst (v := 1) X (dk D_Ex_reckon 38 rfl) (by decide) ?_
          refine v_isub X (dk D_Ex_reckon 39 rfl) ?_
          rw [hE.2.2.2.2.1, List.length_cons, nI_pred]
          refine v_putI X (dk D_Ex_reckon 40 rfl) F_Ex_71 CK_Ex rfl rfl (hSu.lt (by decide)) rfl rfl ?_
          refine v_aload_n X (dk D_Ex_reckon 41 rfl) rfl ?_
          refine v_getF X (dk D_Ex_reckon 42 rfl) F_Ex_20 rfl rfl (hSu.lt (by decide)) (hSu.2 997 3) ?_
          refine v_aload_n X (dk D_Ex_reckon 43 rfl) rfl ?_
          refine v_getI X (dk D_Ex_reckon 44 rfl) F_Ex_74 rfl rfl (hSu.lt (by decide)) ?_
          refine v_iconst (v := 1) X (dk D_Ex_reckon 45 rfl) (by decide) ?_
          refine v_isub X (dk D_Ex_reckon 46 rfl) ?_
          rw [gI_nk (by decide), hE.2.2.2.1, List.length_cons, nI_pred]
          refine v_iald X (dk D_Ex_reckon 47 rfl) rfl (hSu.lt (by decide)) (vp_in_nI (show vs.length + 1 < 342 by omega) (by decide)) ?_
          rw [nI_clamp (by first | omega | (simp only [List.length_cons]; omega)), gI_na (by decide), hE.2.2.2.2.2.2.2.2.1.1]
          refine v_istore_n (lb := [some (.ref 997), some (.int s), some (.ref (1048600 + o)), some (.int v)]) X (dk D_Ex_reckon 48 rfl) (by decide) rfl ?_
          refine v_aload_n X (dk D_Ex_reckon 49 rfl) rfl ?_
          refine v_invVS (b := (1048600 + o)) (As := []) (st := []) X (c_isBetween l q ho) (dk D_Ex_reckon 50 rfl) g_Ex_130 K_Op_isBetween V_Op_isBetween (X.sf.2.1 o ho).1 rfl rfl (Nat.le_of_ble_eq_true rfl) (Nat.le_of_ble_eq_true rfl) (Nat.le_of_ble_eq_true rfl) (Nat.le_of_ble_eq_true rfl) (Nat.le_of_ble_eq_true rfl) ?_
          rintro v w ⟨rfl, hw9⟩
          rw [hw9, if_pos hbo]
          show Vv _ _ _ _ _ _ _ _ _ _ _ _ _ _ _ [.int 1] (0, 0, (xI u 997 6 (nI ws.length)))
          refine v_if_ne (tgt := 123) X (dk D_Ex_reckon 51 rfl) (by decide) (fun _ => ?_) (fun c91 => absurd c91 (by decide))
          refine v_aload_n X (dk D_Ex_reckon 69 rfl) rfl ?_
          refine v_getI X (dk D_Ex_reckon 70 rfl) F_Ex_74 rfl rfl (hSu.lt (by decide)) ?_
          refine v_iconst (v := 1) X (dk D_Ex_reckon 71 rfl) (by decide) ?_
          refine v_icmp_le (tgt := 169) X (dk D_Ex_reckon 72 rfl) (by decide) (fun c128 => absurd c128 (by rw [show gI (xI u 997 6 (nI ws.length)) 997 4 = nI (vs.length + 2) from (gI_nk (by decide)).trans hE.2.2.2.1]; exact nI_ge (a := 1) (by omega) (by omega))) (fun _ => ?_)
          refine v_aload_n X (dk D_Ex_reckon 73 rfl) rfl ?_
          refine v_dup X (dk D_Ex_reckon 74 rfl) rfl ?_
          refine v_getI X (dk D_Ex_reckon 75 rfl) F_Ex_74 rfl rfl (hSu.lt (by decide)) ?_
          refine v_iconst (v := 1) X (dk D_Ex_reckon 76 rfl) (by decide) ?_
          refine v_isub X (dk D_Ex_reckon 77 rfl) ?_
          rw [show gI (xI u 997 6 (nI ws.length)) 997 4 = nI (vs.length + 1 + 1) from (gI_nk (by decide)).trans hE.2.2.2.1, nI_pred]
          refine v_putI X (dk D_Ex_reckon 78 rfl) F_Ex_74 CK_Ex rfl rfl (hSu.lt (by decide)) rfl rfl ?_
          refine v_aload_n X (dk D_Ex_reckon 79 rfl) rfl ?_
          refine v_getF X (dk D_Ex_reckon 80 rfl) F_Ex_20 rfl rfl (hSu.lt (by decide)) (hSu.2 997 3) ?_
          refine v_aload_n X (dk D_Ex_reckon 81 rfl) rfl ?_
          refine v_getI X (dk D_Ex_reckon 82 rfl) F_Ex_74 rfl rfl (hSu.lt (by decide)) ?_
          refine v_iconst (v := 1) X (dk D_Ex_reckon 83 rfl) (by decide) ?_
          refine v_isub X (dk D_Ex_reckon 84 rfl) ?_
          rw [show gI (xI (xI u 997 6 (nI ws.length)) 997 4 (nI (vs.length + 1))) 997 4 = nI (vs.length + 1) from gI_eq _ _ _ _, nI_pred]
          refine v_aload_n X (dk D_Ex_reckon 85 rfl) rfl ?_
          refine v_aload_n X (dk D_Ex_reckon 86 rfl) rfl ?_
          refine v_aload_n X (dk D_Ex_reckon 87 rfl) rfl ?_
          refine v_getF X (dk D_Ex_reckon 88 rfl) F_Ex_20 rfl rfl (hSu.lt (by decide)) (hSu.2 997 3) ?_
          refine v_aload_n X (dk D_Ex_reckon 89 rfl) rfl ?_
          refine v_getI X (dk D_Ex_reckon 90 rfl) F_Ex_74 rfl rfl (hSu.lt (by decide)) ?_
          refine v_iconst (v := 1) X (dk D_Ex_reckon 91 rfl) (by decide) ?_
          refine v_isub X (dk D_Ex_reckon 92 rfl) ?_
          rw [show gI (xI (xI u 997 6 (nI ws.length)) 997 4 (nI (vs.length + 1))) 997 4 = nI (vs.length + 1) from gI_eq _ _ _ _, nI_pred]
          refine v_iald X (dk D_Ex_reckon 93 rfl) rfl (hSu.lt (by decide)) (vp_in_nI (show vs.length < 342 by omega) (by decide)) ?_
          rw [nI_clamp (by omega), show gI (xI (xI u 997 6 (nI ws.length)) 997 4 (nI (vs.length + 1))) 1000 vs.length = a from (gI_na (by decide)).trans ((gI_na (by decide)).trans hE.2.2.2.2.2.2.2.2.1.2.1)]
          refine v_iload_n X (dk D_Ex_reckon 94 rfl) rfl ?_
          refine v_invV (As := [.ref (1048600 + o), .int a, .int v]) (st := [.int (nI vs.length), .ref 1000]) X (c_ofTwo l q (o := o) (a := a) (b := v) (bz := bz) (g := (xI (xI u 997 6 (nI ws.length)) 997 4 (nI (vs.length + 1)))) (hSu.sm z4) hbo ((gI_nk (by decide)).trans ((gI_nk (by decide)).trans hE.2.2.2.2.2.2.2.1))) (dk D_Ex_reckon 95 rfl) G_Ex_145 K_Ex_ofTwo V_Ex_ofTwo rfl rfl (hSu.lt (by decide)) rfl rfl (Nat.le_of_ble_eq_true rfl) (Nat.le_of_ble_eq_true rfl) (Nat.le_of_ble_eq_true rfl) (Nat.le_of_ble_eq_true rfl) (Nat.le_of_ble_eq_true rfl) ?_
          rintro v2 w2 ⟨rfl, hw2⟩
          have hE2 := bz_step hE1 hw2
          have zw := sm_bz hw2
          show Vv _ _ _ _ _ _ _ _ _ _ _ _ _ _ _ [.int (ofT o a v), .int (nI vs.length), .ref 1000] (0, 0, w2.2.2)
          refine v_iast X (dk D_Ex_reckon 96 rfl) rfl (((hSu.sm z4).sm zw).lt (by decide)) (vp_in_nI (show vs.length < 342 by omega) (by decide)) ?_
          rw [nI_clamp (by omega)]
          refine v_goto (tgt := 0) X (dk D_Ex_reckon 97 rfl) (by decide) ?_
          exact v_weak (la := [some (.ref 997), some (.int s), none, none]) ⟨rfl, rfl, trivial⟩ (ih (ofT o a v :: vs) _ (bz || bzT o v) (hE2.vset (ofT o a v)) ((((zu.xI (by decide)).xI (by decide)).tr zw (U := XS) (fun _ h => h) (fun _ h => h)).xI (by decide)) (((hSu.sm z4).sm zw).sm ((sm.rf _ [1000]).xI (by simp))) hw.2.1 (by omega) (by simp only [List.length_cons] at hv ⊢; omega) (by rw [hrc, rck_c, if_neg c, if_neg (by omega)]))
  exact v_weak (la := [some (.ref 997), some (.int s), none, none]) ⟨rfl, rfl, trivial⟩ (loop ws0 vs0 g bz0 hE (sm.rf _ _) hS hw hf hv rfl)
