/-! the reference: expressions, the small methods -/
/-- the byte at the place k of what is left, or -1 -/
def sgn (s : List Int32) (k : Nat) : Int32 := if k < s.length then s.getD k 0 &&& 255 else -1
/-- the expression u lies in the arguments from st on; p of its bytes are read -/
def EP (g : mu_T) (st : Nat) (u : List Int32) (p : Nat) : Prop := gI g 1003 39 = nI (st + p) ∧ gI g 1003 40 = nI (st + u.length) ∧ (∀ j, j < u.length → gI g 1018 (st + j) = u.getD j 0) ∧ st + u.length ≤ 16385 ∧ p ≤ u.length + 100
theorem EP.rs {g h : mu_T} {K U : List Nat} {st p : Nat} {u : List Int32} (e : EP g st u p) (z : rs g h K U) (h39 : 39 ∉ K) (h40 : 40 ∉ K) (hU : 1018 ∉ U) : EP h st u p := ⟨(z.2 39 h39).trans e.1, (z.2 40 h40).trans e.2.1, fun j hj => (z.row hU (by decide) _).trans (e.2.2.1 j hj), e.2.2.2⟩
theorem EP.to {g : mu_T} {st p : Nat} {u : List Int32} (x : Nat) (e : EP g st u p) (hx : x ≤ u.length + 100) : EP (xI g 1003 39 (nI (st + x))) st u x := ⟨gI_eq _ _ _ _, (gI_nk (by decide)).trans e.2.1, fun j hj => (gI_na (by decide)).trans (e.2.2.1 j hj), e.2.2.2.1, hx⟩
theorem sgn_in {u : List Int32} {p k : Nat} (h : p + k < u.length) : sgn (u.drop p) k = u.getD (p + k) 0 &&& 255 := by
  rw [sgn, if_pos (by rw [List.length_drop]; omega), List.getD_eq_getElem?_getD, List.getElem?_drop, ← List.getD_eq_getElem?_getD]
theorem sgn_out {u : List Int32} {p k : Nat} (h : u.length ≤ p + k) : sgn (u.drop p) k = -1 := by
  rw [sgn, if_neg (by rw [List.length_drop]; omega)]
def skB : List Int32 → List Int32
  | [] => []
  | b :: s => if isSpc (b &&& 255) = true then skB s else b :: s
theorem spc_iff (b : Int32) : isSpc b = true ↔ (isBlk b = true ∨ b = 10) := by
  rw [isSpc, isBlk, decide_eq_true_eq, decide_eq_true_eq]
  simp only [← Int32.toInt_inj, Int32.lt_iff_toInt_lt, show (32 : Int32).toInt = 32 from rfl, show (9 : Int32).toInt = 9 from rfl, show (10 : Int32).toInt = 10 from rfl, show (11 : Int32).toInt = 11 from rfl, show (12 : Int32).toInt = 12 from rfl, show (13 : Int32).toInt = 13 from rfl]
  omega
theorem skB_stop {s : List Int32} (h : ¬ isSpc (sgn s 0) = true) : skB s = s := by
  cases s with
  | nil => rfl
  | cons b t => exact if_neg h
theorem skB_go {u : List Int32} {p : Nat} (h : isSpc (sgn (u.drop p) 0) = true) : p < u.length ∧ skB (u.drop p) = skB (u.drop (p + 1)) := by
  by_cases c : p < u.length
  · refine ⟨c, ?_⟩
    rw [sgn_in (by omega), Nat.add_zero] at h
    rw [drop_getD c]
    exact if_pos h
  · rw [sgn_out (by omega)] at h
    exact absurd h (by decide)
theorem skB_skB : ∀ (s : List Int32), skB (skB s) = skB s
  | [] => rfl
  | b :: s => by
    by_cases c : isSpc (b &&& 255) = true
    · rw [show skB (b :: s) = skB s from if_pos c]; exact skB_skB s
    · rw [show skB (b :: s) = b :: s from if_neg c]; exact if_neg c
def oc (o : Nat) : Nat := [11, 21, 61, 62, 73, 74, 81, 82, 31, 41, 51, 71, 72, 91, 92, 101, 102, 103].getD o 0
/-- what the reference's operator says -/
def opN (s : List Int32) : Int32 := match btO s with
  | none => 0
  | some o => nI (oc o)
def opD (a b : Int32) : Int32 := if a = 124 then (if b = 124 then 11 else 31) else if a = 38 then (if b = 38 then 21 else 51) else if a = 94 then 41 else if a = 61 ∨ a = 33 then (if ¬ b = 61 then 0 else if a = 61 then 61 else 62) else if a = 60 then (if b = 60 then 81 else if b = 61 then 73 else 71) else if a = 62 then (if b = 62 then 82 else if b = 61 then 74 else 72) else if a = 43 then 91 else if a = 45 then 92 else if a = 42 then 101 else if a = 47 then 102 else if a = 37 then 103 else 0
def prO (o : Nat) (a b : Int32) : Bool := match o with
  | 0 => decide (a = 124 ∧ b = 124) | 1 => decide (a = 38 ∧ b = 38) | 2 => decide (a = 61 ∧ b = 61) | 3 => decide (a = 33 ∧ b = 61) | 4 => decide (a = 60 ∧ b = 61) | 5 => decide (a = 62 ∧ b = 61) | 6 => decide (a = 60 ∧ b = 60) | 7 => decide (a = 62 ∧ b = 62)
  | 8 => decide (a = 124) | 9 => decide (a = 94) | 10 => decide (a = 38) | 11 => decide (a = 60) | 12 => decide (a = 62) | 13 => decide (a = 43) | 14 => decide (a = 45) | 15 => decide (a = 42) | 16 => decide (a = 47) | 17 => decide (a = 37) | _ => false
theorem isPr_1 {x : Int32} {s : List Int32} (hx : ¬ x = -1) : isPr [x] s = decide (sgn s 0 = x) := by
  rw [isPr]
  refine decide_eq_decide.mpr ⟨fun h => ?_, fun h => ?_⟩
  · rw [sgn, if_pos (Nat.lt_of_lt_of_le Nat.zero_lt_one h.1)]; exact h.2 0 (by show 0 < 1; decide)
  · by_cases c : 0 < s.length
    · rw [sgn, if_pos c] at h
      refine ⟨c, fun k hk => ?_⟩
      rw [show k = 0 from Nat.lt_one_iff.mp hk]; exact h
    · rw [sgn, if_neg c] at h; exact absurd h.symm hx
theorem isPr_2 {x y : Int32} {s : List Int32} (hx : ¬ x = -1) (hy : ¬ y = -1) : isPr [x, y] s = decide (sgn s 0 = x ∧ sgn s 1 = y) := by
  rw [isPr]
  refine decide_eq_decide.mpr ⟨fun h => ?_, fun h => ?_⟩
  · have hl : 2 ≤ s.length := h.1
    refine ⟨?_, ?_⟩
    · rw [sgn, if_pos (by omega)]; exact h.2 0 (by show 0 < 2; decide)
    · rw [sgn, if_pos (by omega)]; exact h.2 1 (by show 1 < 2; decide)
  · by_cases c : 1 < s.length
    · rw [sgn, if_pos (by omega), sgn, if_pos c] at h
      refine ⟨c, fun k hk => ?_⟩
      rcases (show k = 0 ∨ k = 1 from by have : k < 2 := hk; omega) with e | e
      · rw [e]; exact h.1
      · rw [e]; exact h.2
    · rw [show sgn s 1 = -1 from if_neg c] at h; exact absurd h.2.symm hy
theorem prO_eq (s : List Int32) : ∀ o, o < 18 → isPr (sgO o) s = prO o (sgn s 0) (sgn s 1) := by
  intro o ho
  have hc : o = 0 ∨ o = 1 ∨ o = 2 ∨ o = 3 ∨ o = 4 ∨ o = 5 ∨ o = 6 ∨ o = 7 ∨ o = 8 ∨ o = 9 ∨ o = 10 ∨ o = 11 ∨ o = 12 ∨ o = 13 ∨ o = 14 ∨ o = 15 ∨ o = 16 ∨ o = 17 := by omega
  rcases hc with rfl | rfl | rfl | rfl | rfl | rfl | rfl | rfl | rfl | rfl | rfl | rfl | rfl | rfl | rfl | rfl | rfl | rfl
  all_goals first | exact isPr_2 (by decide) (by decide) | exact isPr_1 (by decide)
theorem fnd_eq {P Q : Nat → Bool} : ∀ (L : List Nat), (∀ x ∈ L, P x = Q x) → L.find? P = L.find? Q
  | [], _ => rfl
  | a :: L, h => by
    rw [List.find?_cons, List.find?_cons, h a (List.mem_cons_self ..), fnd_eq L (fun x hx => h x (List.mem_cons_of_mem _ hx))]
theorem btO_eq (s : List Int32) : btO s = [0, 1, 2, 3, 4, 5, 6, 7, 8, 9, 10, 11, 12, 13, 14, 15, 16, 17].find? (fun o => prO o (sgn s 0) (sgn s 1)) := fnd_eq _ (fun x hx => prO_eq s x (List.mem_range.mp hx))
theorem opV_eq (a b : Int32) : (match [0, 1, 2, 3, 4, 5, 6, 7, 8, 9, 10, 11, 12, 13, 14, 15, 16, 17].find? (fun o => prO o a b) with
  | none => 0
  | some o => nI (oc o)) = opD a b := by
  by_cases h1 : a = 124
  · subst h1; by_cases e : b = 124
    · subst e; decide
    · simp [List.find?, prO, opD, e]; decide
  by_cases h2 : a = 38
  · subst h2; by_cases e : b = 38
    · subst e; decide
    · simp [List.find?, prO, opD, e]; decide
  by_cases h3 : a = 94
  · subst h3; simp [List.find?, prO, opD]; decide
  by_cases h4 : a = 61
  · subst h4; by_cases e : b = 61
    · subst e; decide
    · simp [List.find?, prO, opD, e]
  by_cases h5 : a = 33
  · subst h5; by_cases e : b = 61
    · subst e; decide
    · simp [List.find?, prO, opD, e]
  by_cases h6 : a = 60
  · subst h6; by_cases e : b = 60
    · subst e; decide
    · by_cases e2 : b = 61
      · subst e2; decide
      · simp [List.find?, prO, opD, e, e2]; decide
  by_cases h7 : a = 62
  · subst h7; by_cases e : b = 62
    · subst e; decide
    · by_cases e2 : b = 61
      · subst e2; decide
      · simp [List.find?, prO, opD, e, e2]; decide
  by_cases h8 : a = 43
  · subst h8; simp [List.find?, prO, opD]; decide
  by_cases h9 : a = 45
  · subst h9; simp [List.find?, prO, opD]; decide
  by_cases h10 : a = 42
  · subst h10; simp [List.find?, prO, opD]; decide
  by_cases h11 : a = 47
  · subst h11; simp [List.find?, prO, opD]; decide
  by_cases h12 : a = 37
  · subst h12; simp [List.find?, prO, opD]; decide
  · simp [List.find?, prO, opD, h1, h2, h3, h4, h5, h6, h7, h8, h9, h10, h11, h12]
theorem opN_eq (s : List Int32) : opN s = opD (sgn s 0) (sgn s 1) := by
  rw [opN, btO_eq]; exact opV_eq _ _
theorem opN_none {s : List Int32} (h : btO s = none) : opN s = 0 := by rw [opN, h]
theorem opN_some {s : List Int32} {k : Nat} (h : btO s = some k) : opN s = nI (oc k) := by rw [opN, h]
theorem oc_lt : ∀ o, o < 18 → 0 < oc o ∧ oc o < 104 := by decide
theorem oc_S : ∀ o, o < 18 → nI (oc o) / 10 = opS o := by decide +kernel
theorem sgO_len : ∀ o, o < 18 → (sgO o).length = 1 ∨ (sgO o).length = 2 := by decide +kernel
set_option maxHeartbeats 4000000 in
set_option maxRecDepth 100000 in
theorem r_sign (l : Launch) (q : ev_T) {st p k : Nat} {u : List Int32} {g : mu_T} (hS : Shp g) (hE : EP g st u p) (hk : k < 2) : Ctr l q M_Rf_sign 0 [.ref 1003, .int (nI k)] (0, 0, g) (fun v w => v = some (.int (sgn (u.drop p) k)) ∧ w.2.2 = g) := by
  have hb1 := hE.2.2.2.1
  have hb2 := hE.2.2.2.2
  refine Ctr.mk (lb := [some (.ref 1003), some (.int (nI k))]) (by decide +kernel) (Nat.le_of_ble_eq_true rfl) rfl rfl ?_
  intro pp ee ss mm aa bb mt cd X hrt hlk hnm
  by_cases c : p + k < u.length
  · refine v_aload_n X (dk D_Rf_sign 0 rfl) rfl ?_
    refine v_getI X (dk D_Rf_sign 1 rfl) F_Rf_334 rfl rfl (hS.lt (by decide)) ?_
    rw [hE.1]
    refine v_iload_n X (dk D_Rf_sign 2 rfl) rfl ?_
    refine v_iadd X (dk D_Rf_sign 3 rfl) ?_
    rw [nI_add]
    refine v_aload_n X (dk D_Rf_sign 4 rfl) rfl ?_
    refine v_getI X (dk D_Rf_sign 5 rfl) F_Rf_337 rfl rfl (hS.lt (by decide)) ?_
    rw [hE.2.1]
    refine v_icmp_ge (tgt := 31) X (dk D_Rf_sign 6 rfl) (by decide) (fun c10 => absurd c10 (nI_ge (by omega) (by omega))) (fun _ => ?_)
    refine v_aload_n X (dk D_Rf_sign 7 rfl) rfl ?_
    refine v_getF X (dk D_Rf_sign 8 rfl) F_Rf_56 rfl rfl (hS.lt (by decide)) (hS.2 1003 35) ?_
    refine v_aload_n X (dk D_Rf_sign 9 rfl) rfl ?_
    refine v_getI X (dk D_Rf_sign 10 rfl) F_Rf_334 rfl rfl (hS.lt (by decide)) ?_
    rw [hE.1]
    refine v_iload_n X (dk D_Rf_sign 11 rfl) rfl ?_
    refine v_iadd X (dk D_Rf_sign 12 rfl) ?_
    rw [nI_add]
    refine v_bald X (dk D_Rf_sign 13 rfl) rfl (hS.lt (by decide)) (vp_in_nI (show st + p + k < 16385 by omega) (by decide)) ?_
    rw [nI_clamp (by omega), Nat.add_assoc st p k, hE.2.2.1 (p + k) c]
    refine v_sipush (v := 255) X (dk D_Rf_sign 14 rfl) (by decide) ?_
    refine v_iand X (dk D_Rf_sign 15 rfl) ?_
    refine v_goto (tgt := 32) X (dk D_Rf_sign 16 rfl) (by decide) ?_
    exact v_iret X hlk hrt (dk D_Rf_sign 18 rfl) ⟨by rw [sgn_in c], rfl⟩
  · refine v_aload_n X (dk D_Rf_sign 0 rfl) rfl ?_
    refine v_getI X (dk D_Rf_sign 1 rfl) F_Rf_334 rfl rfl (hS.lt (by decide)) ?_
    rw [hE.1]
    refine v_iload_n X (dk D_Rf_sign 2 rfl) rfl ?_
    refine v_iadd X (dk D_Rf_sign 3 rfl) ?_
    rw [nI_add]
    refine v_aload_n X (dk D_Rf_sign 4 rfl) rfl ?_
    refine v_getI X (dk D_Rf_sign 5 rfl) F_Rf_337 rfl rfl (hS.lt (by decide)) ?_
    rw [hE.2.1]
    refine v_icmp_ge (tgt := 31) X (dk D_Rf_sign 6 rfl) (by decide) (fun _ => ?_) (fun c10 => absurd (nI_le (by omega) (by omega)) c10)
    refine v_iconst (v := -1) X (dk D_Rf_sign 17 rfl) (by decide) ?_
    exact v_iret X hlk hrt (dk D_Rf_sign 18 rfl) ⟨by rw [sgn_out (by omega)], rfl⟩
set_option maxHeartbeats 4000000 in
set_option maxRecDepth 100000 in
theorem r_skipBlanks (l : Launch) (q : ev_T) {st p : Nat} {u : List Int32} {g : mu_T} (hS : Shp g) (hE : EP g st u p) : Ctr l q M_Rf_skipBlanks 1 [.ref 1003] (0, 0, g) (fun v w => v = none ∧ ∃ p', rs g w.2.2 [39] [] ∧ EP w.2.2 st u p' ∧ p ≤ p' ∧ (p' ≤ u.length ∨ p' = p) ∧ u.drop p' = skB (u.drop p)) := by

  refine Ctr.mk (lb := [some (.ref 1003)]) (by decide +kernel) (Nat.le_of_ble_eq_true rfl) rfl rfl ?_
  intro pp ee ss mm aa bb mt cd X hrt hlk hnm
  have loop : ∀ (d k : Nat) (h : mu_T), u.length ≤ k + d → rs g h [39] [] → EP h st u k → p ≤ k → (k ≤ u.length ∨ k = p) → skB (u.drop k) = skB (u.drop p) → Vv pp l ee (rmT 1 0 0) ss mm aa bb mt cd 1 q (MQ bb (Qw q (fun v w => v = none ∧ ∃ p', rs g w.2.2 [39] [] ∧ EP w.2.2 st u p' ∧ p ≤ p' ∧ (p' ≤ u.length ∨ p' = p) ∧ u.drop p' = skB (u.drop p))) aa ss 0 0 (fun a => q.1 ≤ a)) 0 [some (.ref 1003)] [] (0, 0, h) := by
    intro d
    induction d with
    | zero =>
      intro k h hkd hs hEh hpk hkl hsk
      have hSh := hs.S hS
      have hst : ¬ isSpc (sgn (u.drop k) 0) = true := fun z => absurd (skB_go z).1 (by omega)
      have cb : ¬ isBlk (sgn (u.drop k) 0) = true := fun z => hst ((spc_iff _).mpr (Or.inl z))
      have c10 : ¬ sgn (u.drop k) 0 = 10 := fun z => hst ((spc_iff _).mpr (Or.inr z))
      refine v_aload_n X (dk D_Rf_skipBlanks 0 rfl) rfl ?_
      refine v_iconst (v := nI 0) X (dk D_Rf_skipBlanks 1 rfl) (by decide) ?_
      refine v_invV (As := [.int (nI 0)]) (st := []) X (r_sign l q (k := 0) hSh hEh (by decide)) (dk D_Rf_skipBlanks 2 rfl) G_Rf_340 K_Rf_sign V_Rf_sign rfl rfl (hSh.lt (by decide)) rfl rfl (Nat.le_of_ble_eq_true rfl) (Nat.le_of_ble_eq_true rfl) (Nat.le_of_ble_eq_true rfl) (Nat.le_of_ble_eq_true rfl) (Nat.le_of_ble_eq_true rfl) ?_
      rintro v ws ⟨rfl, hws⟩
      rw [hws]
      show Vv _ _ _ _ _ _ _ _ _ _ _ _ _ _ _ [.int (sgn (u.drop k) 0)] (0, 0, h)
      refine v_invS (As := [.int (sgn (u.drop k) 0)]) (st := []) X (r_isBlank l q (b := sgn (u.drop k) 0) (g := h)) (dk D_Rf_skipBlanks 3 rfl) G_Rf_262 K_Rf_isBlank S_Rf_isBlank rfl rfl (Nat.le_of_ble_eq_true rfl) (Nat.le_of_ble_eq_true rfl) (Nat.le_of_ble_eq_true rfl) (Nat.le_of_ble_eq_true rfl) (Nat.le_of_ble_eq_true rfl) ?_
      rintro v ws ⟨rfl, hws⟩
      rw [hws, if_neg cb]
      show Vv _ _ _ _ _ _ _ _ _ _ _ _ _ _ _ [.int 0] (0, 0, h)
      refine v_if_ne (tgt := 21) X (dk D_Rf_skipBlanks 4 rfl) (by decide) (fun c8 => absurd rfl c8) (fun _ => ?_)
      refine v_aload_n X (dk D_Rf_skipBlanks 5 rfl) rfl ?_
      refine v_iconst (v := nI 0) X (dk D_Rf_skipBlanks 6 rfl) (by decide) ?_
      refine v_invV (As := [.int (nI 0)]) (st := []) X (r_sign l q (k := 0) hSh hEh (by decide)) (dk D_Rf_skipBlanks 7 rfl) G_Rf_340 K_Rf_sign V_Rf_sign rfl rfl (hSh.lt (by decide)) rfl rfl (Nat.le_of_ble_eq_true rfl) (Nat.le_of_ble_eq_true rfl) (Nat.le_of_ble_eq_true rfl) (Nat.le_of_ble_eq_true rfl) (Nat.le_of_ble_eq_true rfl) ?_
      rintro v ws ⟨rfl, hws⟩
      rw [hws]
      show Vv _ _ _ _ _ _ _ _ _ _ _ _ _ _ _ [.int (sgn (u.drop k) 0)] (0, 0, h)
      refine v_bipush (v := 10) X (dk D_Rf_skipBlanks 8 rfl) (by decide) ?_
      refine v_icmp_ne (tgt := 34) X (dk D_Rf_skipBlanks 9 rfl) (by decide) (fun _ => ?_) (fun c18 => absurd c18 c10)
      exact v_vret X hlk hrt (dk D_Rf_skipBlanks 17 rfl) ⟨rfl, k, hs, hEh, hpk, hkl, (skB_stop hst).symm.trans hsk⟩
    | succ d ih =>
      intro k h hkd hs hEh hpk hkl hsk
      have hSh := hs.S hS
      by_cases cb : isBlk (sgn (u.drop k) 0) = true
      · have hgo := skB_go ((spc_iff _).mpr (Or.inl cb))
        refine v_aload_n X (dk D_Rf_skipBlanks 0 rfl) rfl ?_
        refine v_iconst (v := nI 0) X (dk D_Rf_skipBlanks 1 rfl) (by decide) ?_
        refine v_invV (As := [.int (nI 0)]) (st := []) X (r_sign l q (k := 0) hSh hEh (by decide)) (dk D_Rf_skipBlanks 2 rfl) G_Rf_340 K_Rf_sign V_Rf_sign rfl rfl (hSh.lt (by decide)) rfl rfl (Nat.le_of_ble_eq_true rfl) (Nat.le_of_ble_eq_true rfl) (Nat.le_of_ble_eq_true rfl) (Nat.le_of_ble_eq_true rfl) (Nat.le_of_ble_eq_true rfl) ?_
        rintro v ws ⟨rfl, hws⟩
        rw [hws]
        show Vv _ _ _ _ _ _ _ _ _ _ _ _ _ _ _ [.int (sgn (u.drop k) 0)] (0, 0, h)
        refine v_invS (As := [.int (sgn (u.drop k) 0)]) (st := []) X (r_isBlank l q (b := sgn (u.drop k) 0) (g := h)) (dk D_Rf_skipBlanks 3 rfl) G_Rf_262 K_Rf_isBlank S_Rf_isBlank rfl rfl (Nat.le_of_ble_eq_true rfl) (Nat.le_of_ble_eq_true rfl) (Nat.le_of_ble_eq_true rfl) (Nat.le_of_ble_eq_true rfl) (Nat.le_of_ble_eq_true rfl) ?_
        rintro v ws ⟨rfl, hws⟩
        rw [hws, if_pos cb]
        show Vv _ _ _ _ _ _ _ _ _ _ _ _ _ _ _ [.int 1] (0, 0, h)
        refine v_if_ne (tgt := 21) X (dk D_Rf_skipBlanks 4 rfl) (by decide) (fun _ => ?_) (fun c8 => absurd c8 (by decide))
        refine v_aload_n X (dk D_Rf_skipBlanks 10 rfl) rfl ?_
        refine v_dup X (dk D_Rf_skipBlanks 11 rfl) rfl ?_
        refine v_getI X (dk D_Rf_skipBlanks 12 rfl) F_Rf_334 rfl rfl (hSh.lt (by decide)) ?_
        rw [hEh.1]
        refine v_iconst (v := 1) X (dk D_Rf_skipBlanks 13 rfl) (by decide) ?_
        refine v_iadd X (dk D_Rf_skipBlanks 14 rfl) ?_
        rw [nI_1, Nat.add_assoc st k 1]
        refine v_putI X (dk D_Rf_skipBlanks 15 rfl) F_Rf_334 CK_Rf rfl rfl (hSh.lt (by decide)) rfl rfl ?_
        refine v_goto (tgt := 0) X (dk D_Rf_skipBlanks 16 rfl) (by decide) ?_
        exact ih (k + 1) _ (by omega) (hs.fI (by decide)) (hEh.to (k + 1) (by omega)) (by omega) (Or.inl (by omega)) (hgo.2.symm.trans hsk)
      by_cases c10 : sgn (u.drop k) 0 = 10
      · have hgo := skB_go ((spc_iff _).mpr (Or.inr c10))
        refine v_aload_n X (dk D_Rf_skipBlanks 0 rfl) rfl ?_
        refine v_iconst (v := nI 0) X (dk D_Rf_skipBlanks 1 rfl) (by decide) ?_
        refine v_invV (As := [.int (nI 0)]) (st := []) X (r_sign l q (k := 0) hSh hEh (by decide)) (dk D_Rf_skipBlanks 2 rfl) G_Rf_340 K_Rf_sign V_Rf_sign rfl rfl (hSh.lt (by decide)) rfl rfl (Nat.le_of_ble_eq_true rfl) (Nat.le_of_ble_eq_true rfl) (Nat.le_of_ble_eq_true rfl) (Nat.le_of_ble_eq_true rfl) (Nat.le_of_ble_eq_true rfl) ?_
        rintro v ws ⟨rfl, hws⟩
        rw [hws]
        show Vv _ _ _ _ _ _ _ _ _ _ _ _ _ _ _ [.int (sgn (u.drop k) 0)] (0, 0, h)
        refine v_invS (As := [.int (sgn (u.drop k) 0)]) (st := []) X (r_isBlank l q (b := sgn (u.drop k) 0) (g := h)) (dk D_Rf_skipBlanks 3 rfl) G_Rf_262 K_Rf_isBlank S_Rf_isBlank rfl rfl (Nat.le_of_ble_eq_true rfl) (Nat.le_of_ble_eq_true rfl) (Nat.le_of_ble_eq_true rfl) (Nat.le_of_ble_eq_true rfl) (Nat.le_of_ble_eq_true rfl) ?_
        rintro v ws ⟨rfl, hws⟩
        rw [hws, if_neg cb]
        show Vv _ _ _ _ _ _ _ _ _ _ _ _ _ _ _ [.int 0] (0, 0, h)
        refine v_if_ne (tgt := 21) X (dk D_Rf_skipBlanks 4 rfl) (by decide) (fun c8 => absurd rfl c8) (fun _ => ?_)
        refine v_aload_n X (dk D_Rf_skipBlanks 5 rfl) rfl ?_
        refine v_iconst (v := nI 0) X (dk D_Rf_skipBlanks 6 rfl) (by decide) ?_
        refine v_invV (As := [.int (nI 0)]) (st := []) X (r_sign l q (k := 0) hSh hEh (by decide)) (dk D_Rf_skipBlanks 7 rfl) G_Rf_340 K_Rf_sign V_Rf_sign rfl rfl (hSh.lt (by decide)) rfl rfl (Nat.le_of_ble_eq_true rfl) (Nat.le_of_ble_eq_true rfl) (Nat.le_of_ble_eq_true rfl) (Nat.le_of_ble_eq_true rfl) (Nat.le_of_ble_eq_true rfl) ?_
        rintro v ws ⟨rfl, hws⟩
        rw [hws]
        show Vv _ _ _ _ _ _ _ _ _ _ _ _ _ _ _ [.int (sgn (u.drop k) 0)] (0, 0, h)
        refine v_bipush (v := 10) X (dk D_Rf_skipBlanks 8 rfl) (by decide) ?_
        refine v_icmp_ne (tgt := 34) X (dk D_Rf_skipBlanks 9 rfl) (by decide) (fun c18 => absurd c10 c18) (fun _ => ?_)
        refine v_aload_n X (dk D_Rf_skipBlanks 10 rfl) rfl ?_
        refine v_dup X (dk D_Rf_skipBlanks 11 rfl) rfl ?_
        refine v_getI X (dk D_Rf_skipBlanks 12 rfl) F_Rf_334 rfl rfl (hSh.lt (by decide)) ?_
        rw [hEh.1]
        refine v_iconst (v := 1) X (dk D_Rf_skipBlanks 13 rfl) (by decide) ?_
        refine v_iadd X (dk D_Rf_skipBlanks 14 rfl) ?_
        rw [nI_1, Nat.add_assoc st k 1]
        refine v_putI X (dk D_Rf_skipBlanks 15 rfl) F_Rf_334 CK_Rf rfl rfl (hSh.lt (by decide)) rfl rfl ?_
        refine v_goto (tgt := 0) X (dk D_Rf_skipBlanks 16 rfl) (by decide) ?_
        exact ih (k + 1) _ (by omega) (hs.fI (by decide)) (hEh.to (k + 1) (by omega)) (by omega) (Or.inl (by omega)) (hgo.2.symm.trans hsk)
      · have hst : ¬ isSpc (sgn (u.drop k) 0) = true := fun z => ((spc_iff _).mp z).elim cb c10
        refine v_aload_n X (dk D_Rf_skipBlanks 0 rfl) rfl ?_
        refine v_iconst (v := nI 0) X (dk D_Rf_skipBlanks 1 rfl) (by decide) ?_
        refine v_invV (As := [.int (nI 0)]) (st := []) X (r_sign l q (k := 0) hSh hEh (by decide)) (dk D_Rf_skipBlanks 2 rfl) G_Rf_340 K_Rf_sign V_Rf_sign rfl rfl (hSh.lt (by decide)) rfl rfl (Nat.le_of_ble_eq_true rfl) (Nat.le_of_ble_eq_true rfl) (Nat.le_of_ble_eq_true rfl) (Nat.le_of_ble_eq_true rfl) (Nat.le_of_ble_eq_true rfl) ?_
        rintro v ws ⟨rfl, hws⟩
        rw [hws]
        show Vv _ _ _ _ _ _ _ _ _ _ _ _ _ _ _ [.int (sgn (u.drop k) 0)] (0, 0, h)
        refine v_invS (As := [.int (sgn (u.drop k) 0)]) (st := []) X (r_isBlank l q (b := sgn (u.drop k) 0) (g := h)) (dk D_Rf_skipBlanks 3 rfl) G_Rf_262 K_Rf_isBlank S_Rf_isBlank rfl rfl (Nat.le_of_ble_eq_true rfl) (Nat.le_of_ble_eq_true rfl) (Nat.le_of_ble_eq_true rfl) (Nat.le_of_ble_eq_true rfl) (Nat.le_of_ble_eq_true rfl) ?_
        rintro v ws ⟨rfl, hws⟩
        rw [hws, if_neg cb]
        show Vv _ _ _ _ _ _ _ _ _ _ _ _ _ _ _ [.int 0] (0, 0, h)
        refine v_if_ne (tgt := 21) X (dk D_Rf_skipBlanks 4 rfl) (by decide) (fun c8 => absurd rfl c8) (fun _ => ?_)
        refine v_aload_n X (dk D_Rf_skipBlanks 5 rfl) rfl ?_
        refine v_iconst (v := nI 0) X (dk D_Rf_skipBlanks 6 rfl) (by decide) ?_
        refine v_invV (As := [.int (nI 0)]) (st := []) X (r_sign l q (k := 0) hSh hEh (by decide)) (dk D_Rf_skipBlanks 7 rfl) G_Rf_340 K_Rf_sign V_Rf_sign rfl rfl (hSh.lt (by decide)) rfl rfl (Nat.le_of_ble_eq_true rfl) (Nat.le_of_ble_eq_true rfl) (Nat.le_of_ble_eq_true rfl) (Nat.le_of_ble_eq_true rfl) (Nat.le_of_ble_eq_true rfl) ?_
        rintro v ws ⟨rfl, hws⟩
        rw [hws]
        show Vv _ _ _ _ _ _ _ _ _ _ _ _ _ _ _ [.int (sgn (u.drop k) 0)] (0, 0, h)
        refine v_bipush (v := 10) X (dk D_Rf_skipBlanks 8 rfl) (by decide) ?_
        refine v_icmp_ne (tgt := 34) X (dk D_Rf_skipBlanks 9 rfl) (by decide) (fun _ => ?_) (fun c18 => absurd c18 c10)
        exact v_vret X hlk hrt (dk D_Rf_skipBlanks 17 rfl) ⟨rfl, k, hs, hEh, hpk, hkl, (skB_stop hst).symm.trans hsk⟩
  exact loop u.length p g (by omega) (rs.rf g _ _) hE (Nat.le_refl _) (Or.inr rfl) rfl
set_option maxHeartbeats 4000000 in
set_option maxRecDepth 100000 in
theorem r_operator (l : Launch) (q : ev_T) {st p : Nat} {u : List Int32} {g : mu_T} (hS : Shp g) (hE : EP g st u p) : Ctr l q M_Rf_operator 1 [.ref 1003] (0, 0, g) (fun v w => v = some (.int (opN (u.drop p))) ∧ w.2.2 = g) := by

  refine Ctr.mk (lb := [some (.ref 1003), none, none]) (by decide +kernel) (Nat.le_of_ble_eq_true rfl) rfl rfl ?_
  intro pp ee ss mm aa bb mt cd X hrt hlk hnm
  refine v_aload_n X (dk D_Rf_operator 0 rfl) rfl ?_
  refine v_iconst (v := nI 0) X (dk D_Rf_operator 1 rfl) (by decide) ?_
  refine v_invV (As := [.int (nI 0)]) (st := []) X (r_sign l q (k := 0) hS hE (by decide)) (dk D_Rf_operator 2 rfl) G_Rf_340 K_Rf_sign V_Rf_sign rfl rfl (hS.lt (by decide)) rfl rfl (Nat.le_of_ble_eq_true rfl) (Nat.le_of_ble_eq_true rfl) (Nat.le_of_ble_eq_true rfl) (Nat.le_of_ble_eq_true rfl) (Nat.le_of_ble_eq_true rfl) ?_
  rintro v ws ⟨rfl, hws⟩
  rw [hws]
  show Vv _ _ _ _ _ _ _ _ _ _ _ _ _ _ _ [.int (sgn (u.drop p) 0)] (0, 0, g)
  refine v_istore_n (lb := [some (.ref 1003), some (.int (sgn (u.drop p) 0)), none]) X (dk D_Rf_operator 3 rfl) (by decide) rfl ?_
  refine v_aload_n X (dk D_Rf_operator 4 rfl) rfl ?_
  refine v_iconst (v := nI 1) X (dk D_Rf_operator 5 rfl) (by decide) ?_
  refine v_invV (As := [.int (nI 1)]) (st := []) X (r_sign l q (k := 1) hS hE (by decide)) (dk D_Rf_operator 6 rfl) G_Rf_340 K_Rf_sign V_Rf_sign rfl rfl (hS.lt (by decide)) rfl rfl (Nat.le_of_ble_eq_true rfl) (Nat.le_of_ble_eq_true rfl) (Nat.le_of_ble_eq_true rfl) (Nat.le_of_ble_eq_true rfl) (Nat.le_of_ble_eq_true rfl) ?_
  rintro v ws ⟨rfl, hws⟩
  rw [hws]
  show Vv _ _ _ _ _ _ _ _ _ _ _ _ _ _ _ [.int (sgn (u.drop p) 1)] (0, 0, g)
  refine v_istore_n (lb := [some (.ref 1003), some (.int (sgn (u.drop p) 0)), some (.int (sgn (u.drop p) 1))]) X (dk D_Rf_operator 7 rfl) (by decide) rfl ?_
  refine v_iload_n X (dk D_Rf_operator 8 rfl) rfl ?_
  refine v_bipush (v := 124) X (dk D_Rf_operator 9 rfl) (by decide) ?_
  refine v_icmp_ne (tgt := 32) X (dk D_Rf_operator 10 rfl) (by decide) (fun c15 => ?_) (fun c15 => ?_)
  · refine v_iload_n X (dk D_Rf_operator 18 rfl) rfl ?_
    refine v_bipush (v := 38) X (dk D_Rf_operator 19 rfl) (by decide) ?_
    refine v_icmp_ne (tgt := 52) X (dk D_Rf_operator 20 rfl) (by decide) (fun c35 => ?_) (fun c35 => ?_)
    · refine v_iload_n X (dk D_Rf_operator 28 rfl) rfl ?_
      refine v_bipush (v := 94) X (dk D_Rf_operator 29 rfl) (by decide) ?_
      refine v_icmp_ne (tgt := 61) X (dk D_Rf_operator 30 rfl) (by decide) (fun c55 => ?_) (fun c55 => ?_)
      · refine v_iload_n X (dk D_Rf_operator 33 rfl) rfl ?_
        refine v_bipush (v := 61) X (dk D_Rf_operator 34 rfl) (by decide) ?_
        refine v_icmp_eq (tgt := 73) X (dk D_Rf_operator 35 rfl) (by decide) (fun c64 => ?_) (fun c64 => ?_)
        · refine v_iload_n X (dk D_Rf_operator 39 rfl) rfl ?_
          refine v_bipush (v := 61) X (dk D_Rf_operator 40 rfl) (by decide) ?_
          refine v_icmp_eq (tgt := 83) X (dk D_Rf_operator 41 rfl) (by decide) (fun c76 => ?_) (fun c76 => ?_)
          · refine v_iload_n X (dk D_Rf_operator 44 rfl) rfl ?_
            refine v_bipush (v := 61) X (dk D_Rf_operator 45 rfl) (by decide) ?_
            refine v_icmp_ne (tgt := 94) X (dk D_Rf_operator 46 rfl) (by decide) (fun c86 => ?_) (fun c86 => ?_)
            · refine v_bipush (v := 62) X (dk D_Rf_operator 49 rfl) (by decide) ?_
              exact v_iret X hlk hrt (dk D_Rf_operator 50 rfl) ⟨congrArg (fun z => some (Value.int z)) (by rw [opN_eq]; first | exact absurd c64 c86 | exact absurd c86 c64 | simp [opD, c15, c35, c55, c64, c70, c76, c86] | simp [opD, c15, c35, c55, c64, c76, c86] | simp [opD, c15, c35, c55, c64, c70, c76] | simp [opD, c15, c35, c55, c64, c76]), rfl⟩
            · refine v_bipush (v := 61) X (dk D_Rf_operator 47 rfl) (by decide) ?_
              refine v_goto (tgt := 96) X (dk D_Rf_operator 48 rfl) (by decide) ?_
              exact v_iret X hlk hrt (dk D_Rf_operator 50 rfl) ⟨congrArg (fun z => some (Value.int z)) (by rw [opN_eq]; first | exact absurd c64 c86 | exact absurd c86 c64 | simp [opD, c15, c35, c55, c64, c70, c76, c86] | simp [opD, c15, c35, c55, c64, c76, c86] | simp [opD, c15, c35, c55, c64, c70, c76] | simp [opD, c15, c35, c55, c64, c76]), rfl⟩
          · refine v_iconst (v := 0) X (dk D_Rf_operator 42 rfl) (by decide) ?_
            refine v_goto (tgt := 96) X (dk D_Rf_operator 43 rfl) (by decide) ?_
            exact v_iret X hlk hrt (dk D_Rf_operator 50 rfl) ⟨congrArg (fun z => some (Value.int z)) (by rw [opN_eq]; first | exact absurd c64 c86 | exact absurd c86 c64 | simp [opD, c15, c35, c55, c64, c70, c76, c86] | simp [opD, c15, c35, c55, c64, c76, c86] | simp [opD, c15, c35, c55, c64, c70, c76] | simp [opD, c15, c35, c55, c64, c76]), rfl⟩
        · refine v_iload_n X (dk D_Rf_operator 36 rfl) rfl ?_
          refine v_bipush (v := 33) X (dk D_Rf_operator 37 rfl) (by decide) ?_
          refine v_icmp_ne (tgt := 97) X (dk D_Rf_operator 38 rfl) (by decide) (fun c70 => ?_) (fun c70 => ?_)
          · refine v_iload_n X (dk D_Rf_operator 51 rfl) rfl ?_
            refine v_bipush (v := 60) X (dk D_Rf_operator 52 rfl) (by decide) ?_
            refine v_icmp_ne (tgt := 128) X (dk D_Rf_operator 53 rfl) (by decide) (fun c100 => ?_) (fun c100 => ?_)
            · refine v_iload_n X (dk D_Rf_operator 66 rfl) rfl ?_
              refine v_bipush (v := 62) X (dk D_Rf_operator 67 rfl) (by decide) ?_
              refine v_icmp_ne (tgt := 159) X (dk D_Rf_operator 68 rfl) (by decide) (fun c131 => ?_) (fun c131 => ?_)
              · refine v_iload_n X (dk D_Rf_operator 81 rfl) rfl ?_
                refine v_bipush (v := 43) X (dk D_Rf_operator 82 rfl) (by decide) ?_
                refine v_icmp_ne (tgt := 170) X (dk D_Rf_operator 83 rfl) (by decide) (fun c162 => ?_) (fun c162 => ?_)
                · refine v_iload_n X (dk D_Rf_operator 86 rfl) rfl ?_
                  refine v_bipush (v := 45) X (dk D_Rf_operator 87 rfl) (by decide) ?_
                  refine v_icmp_ne (tgt := 181) X (dk D_Rf_operator 88 rfl) (by decide) (fun c173 => ?_) (fun c173 => ?_)
                  · refine v_iload_n X (dk D_Rf_operator 91 rfl) rfl ?_
                    refine v_bipush (v := 42) X (dk D_Rf_operator 92 rfl) (by decide) ?_
                    refine v_icmp_ne (tgt := 192) X (dk D_Rf_operator 93 rfl) (by decide) (fun c184 => ?_) (fun c184 => ?_)
                    · refine v_iload_n X (dk D_Rf_operator 96 rfl) rfl ?_
                      refine v_bipush (v := 47) X (dk D_Rf_operator 97 rfl) (by decide) ?_
                      refine v_icmp_ne (tgt := 203) X (dk D_Rf_operator 98 rfl) (by decide) (fun c195 => ?_) (fun c195 => ?_)
                      · refine v_iload_n X (dk D_Rf_operator 101 rfl) rfl ?_
                        refine v_bipush (v := 37) X (dk D_Rf_operator 102 rfl) (by decide) ?_
                        refine v_icmp_ne (tgt := 214) X (dk D_Rf_operator 103 rfl) (by decide) (fun c206 => ?_) (fun c206 => ?_)
                        · refine v_iconst (v := 0) X (dk D_Rf_operator 106 rfl) (by decide) ?_
                          exact v_iret X hlk hrt (dk D_Rf_operator 107 rfl) ⟨congrArg (fun z => some (Value.int z)) (by rw [opN_eq]; first | simp [opD, c15, c35, c55, c64, c70, c100, c131, c162, c173, c184, c195, c206] | simp [opD, c15, c35, c55, c64, c70, c100, c131, c162, c173, c184, c195] | simp [opD, c15, c35, c55, c64, c70, c100, c131, c162, c173, c184] | simp [opD, c15, c35, c55, c64, c70, c100, c131, c162, c173] | simp [opD, c15, c35, c55, c64, c70, c100, c131, c162]), rfl⟩
                        · refine v_bipush (v := 103) X (dk D_Rf_operator 104 rfl) (by decide) ?_
                          refine v_goto (tgt := 215) X (dk D_Rf_operator 105 rfl) (by decide) ?_
                          exact v_iret X hlk hrt (dk D_Rf_operator 107 rfl) ⟨congrArg (fun z => some (Value.int z)) (by rw [opN_eq]; first | simp [opD, c15, c35, c55, c64, c70, c100, c131, c162, c173, c184, c195, c206] | simp [opD, c15, c35, c55, c64, c70, c100, c131, c162, c173, c184, c195] | simp [opD, c15, c35, c55, c64, c70, c100, c131, c162, c173, c184] | simp [opD, c15, c35, c55, c64, c70, c100, c131, c162, c173] | simp [opD, c15, c35, c55, c64, c70, c100, c131, c162]), rfl⟩
                      · refine v_bipush (v := 102) X (dk D_Rf_operator 99 rfl) (by decide) ?_
                        refine v_goto (tgt := 215) X (dk D_Rf_operator 100 rfl) (by decide) ?_
                        exact v_iret X hlk hrt (dk D_Rf_operator 107 rfl) ⟨congrArg (fun z => some (Value.int z)) (by rw [opN_eq]; first | simp [opD, c15, c35, c55, c64, c70, c100, c131, c162, c173, c184, c195, c206] | simp [opD, c15, c35, c55, c64, c70, c100, c131, c162, c173, c184, c195] | simp [opD, c15, c35, c55, c64, c70, c100, c131, c162, c173, c184] | simp [opD, c15, c35, c55, c64, c70, c100, c131, c162, c173] | simp [opD, c15, c35, c55, c64, c70, c100, c131, c162]), rfl⟩
                    · refine v_bipush (v := 101) X (dk D_Rf_operator 94 rfl) (by decide) ?_
                      refine v_goto (tgt := 215) X (dk D_Rf_operator 95 rfl) (by decide) ?_
                      exact v_iret X hlk hrt (dk D_Rf_operator 107 rfl) ⟨congrArg (fun z => some (Value.int z)) (by rw [opN_eq]; first | simp [opD, c15, c35, c55, c64, c70, c100, c131, c162, c173, c184, c195, c206] | simp [opD, c15, c35, c55, c64, c70, c100, c131, c162, c173, c184, c195] | simp [opD, c15, c35, c55, c64, c70, c100, c131, c162, c173, c184] | simp [opD, c15, c35, c55, c64, c70, c100, c131, c162, c173] | simp [opD, c15, c35, c55, c64, c70, c100, c131, c162]), rfl⟩
                  · refine v_bipush (v := 92) X (dk D_Rf_operator 89 rfl) (by decide) ?_
                    refine v_goto (tgt := 215) X (dk D_Rf_operator 90 rfl) (by decide) ?_
                    exact v_iret X hlk hrt (dk D_Rf_operator 107 rfl) ⟨congrArg (fun z => some (Value.int z)) (by rw [opN_eq]; first | simp [opD, c15, c35, c55, c64, c70, c100, c131, c162, c173, c184, c195, c206] | simp [opD, c15, c35, c55, c64, c70, c100, c131, c162, c173, c184, c195] | simp [opD, c15, c35, c55, c64, c70, c100, c131, c162, c173, c184] | simp [opD, c15, c35, c55, c64, c70, c100, c131, c162, c173] | simp [opD, c15, c35, c55, c64, c70, c100, c131, c162]), rfl⟩
                · refine v_bipush (v := 91) X (dk D_Rf_operator 84 rfl) (by decide) ?_
                  refine v_goto (tgt := 215) X (dk D_Rf_operator 85 rfl) (by decide) ?_
                  exact v_iret X hlk hrt (dk D_Rf_operator 107 rfl) ⟨congrArg (fun z => some (Value.int z)) (by rw [opN_eq]; first | simp [opD, c15, c35, c55, c64, c70, c100, c131, c162, c173, c184, c195, c206] | simp [opD, c15, c35, c55, c64, c70, c100, c131, c162, c173, c184, c195] | simp [opD, c15, c35, c55, c64, c70, c100, c131, c162, c173, c184] | simp [opD, c15, c35, c55, c64, c70, c100, c131, c162, c173] | simp [opD, c15, c35, c55, c64, c70, c100, c131, c162]), rfl⟩
              · refine v_iload_n X (dk D_Rf_operator 69 rfl) rfl ?_
                refine v_bipush (v := 62) X (dk D_Rf_operator 70 rfl) (by decide) ?_
                refine v_icmp_ne (tgt := 145) X (dk D_Rf_operator 71 rfl) (by decide) (fun c137 => ?_) (fun c137 => ?_)
                · refine v_iload_n X (dk D_Rf_operator 74 rfl) rfl ?_
                  refine v_bipush (v := 61) X (dk D_Rf_operator 75 rfl) (by decide) ?_
                  refine v_icmp_ne (tgt := 156) X (dk D_Rf_operator 76 rfl) (by decide) (fun c148 => ?_) (fun c148 => ?_)
                  · refine v_bipush (v := 72) X (dk D_Rf_operator 79 rfl) (by decide) ?_
                    exact v_iret X hlk hrt (dk D_Rf_operator 80 rfl) ⟨congrArg (fun z => some (Value.int z)) (by rw [opN_eq]; first | simp [opD, c15, c35, c55, c64, c70, c100, c131, c137, c148] | simp [opD, c15, c35, c55, c64, c70, c100, c131, c137]), rfl⟩
                  · refine v_bipush (v := 74) X (dk D_Rf_operator 77 rfl) (by decide) ?_
                    refine v_goto (tgt := 158) X (dk D_Rf_operator 78 rfl) (by decide) ?_
                    exact v_iret X hlk hrt (dk D_Rf_operator 80 rfl) ⟨congrArg (fun z => some (Value.int z)) (by rw [opN_eq]; first | simp [opD, c15, c35, c55, c64, c70, c100, c131, c137, c148] | simp [opD, c15, c35, c55, c64, c70, c100, c131, c137]), rfl⟩
                · refine v_bipush (v := 82) X (dk D_Rf_operator 72 rfl) (by decide) ?_
                  refine v_goto (tgt := 158) X (dk D_Rf_operator 73 rfl) (by decide) ?_
                  exact v_iret X hlk hrt (dk D_Rf_operator 80 rfl) ⟨congrArg (fun z => some (Value.int z)) (by rw [opN_eq]; first | simp [opD, c15, c35, c55, c64, c70, c100, c131, c137, c148] | simp [opD, c15, c35, c55, c64, c70, c100, c131, c137]), rfl⟩
            · refine v_iload_n X (dk D_Rf_operator 54 rfl) rfl ?_
              refine v_bipush (v := 60) X (dk D_Rf_operator 55 rfl) (by decide) ?_
              refine v_icmp_ne (tgt := 114) X (dk D_Rf_operator 56 rfl) (by decide) (fun c106 => ?_) (fun c106 => ?_)
              · refine v_iload_n X (dk D_Rf_operator 59 rfl) rfl ?_
                refine v_bipush (v := 61) X (dk D_Rf_operator 60 rfl) (by decide) ?_
                refine v_icmp_ne (tgt := 125) X (dk D_Rf_operator 61 rfl) (by decide) (fun c117 => ?_) (fun c117 => ?_)
                · refine v_bipush (v := 71) X (dk D_Rf_operator 64 rfl) (by decide) ?_
                  exact v_iret X hlk hrt (dk D_Rf_operator 65 rfl) ⟨congrArg (fun z => some (Value.int z)) (by rw [opN_eq]; first | simp [opD, c15, c35, c55, c64, c70, c100, c106, c117] | simp [opD, c15, c35, c55, c64, c70, c100, c106]), rfl⟩
                · refine v_bipush (v := 73) X (dk D_Rf_operator 62 rfl) (by decide) ?_
                  refine v_goto (tgt := 127) X (dk D_Rf_operator 63 rfl) (by decide) ?_
                  exact v_iret X hlk hrt (dk D_Rf_operator 65 rfl) ⟨congrArg (fun z => some (Value.int z)) (by rw [opN_eq]; first | simp [opD, c15, c35, c55, c64, c70, c100, c106, c117] | simp [opD, c15, c35, c55, c64, c70, c100, c106]), rfl⟩
              · refine v_bipush (v := 81) X (dk D_Rf_operator 57 rfl) (by decide) ?_
                refine v_goto (tgt := 127) X (dk D_Rf_operator 58 rfl) (by decide) ?_
                exact v_iret X hlk hrt (dk D_Rf_operator 65 rfl) ⟨congrArg (fun z => some (Value.int z)) (by rw [opN_eq]; first | simp [opD, c15, c35, c55, c64, c70, c100, c106, c117] | simp [opD, c15, c35, c55, c64, c70, c100, c106]), rfl⟩
          · refine v_iload_n X (dk D_Rf_operator 39 rfl) rfl ?_
            refine v_bipush (v := 61) X (dk D_Rf_operator 40 rfl) (by decide) ?_
            refine v_icmp_eq (tgt := 83) X (dk D_Rf_operator 41 rfl) (by decide) (fun c76 => ?_) (fun c76 => ?_)
            · refine v_iload_n X (dk D_Rf_operator 44 rfl) rfl ?_
              refine v_bipush (v := 61) X (dk D_Rf_operator 45 rfl) (by decide) ?_
              refine v_icmp_ne (tgt := 94) X (dk D_Rf_operator 46 rfl) (by decide) (fun c86 => ?_) (fun c86 => ?_)
              · refine v_bipush (v := 62) X (dk D_Rf_operator 49 rfl) (by decide) ?_
                exact v_iret X hlk hrt (dk D_Rf_operator 50 rfl) ⟨congrArg (fun z => some (Value.int z)) (by rw [opN_eq]; first | exact absurd c64 c86 | exact absurd c86 c64 | simp [opD, c15, c35, c55, c64, c70, c76, c86] | simp [opD, c15, c35, c55, c64, c76, c86] | simp [opD, c15, c35, c55, c64, c70, c76] | simp [opD, c15, c35, c55, c64, c76]), rfl⟩
              · refine v_bipush (v := 61) X (dk D_Rf_operator 47 rfl) (by decide) ?_
                refine v_goto (tgt := 96) X (dk D_Rf_operator 48 rfl) (by decide) ?_
                exact v_iret X hlk hrt (dk D_Rf_operator 50 rfl) ⟨congrArg (fun z => some (Value.int z)) (by rw [opN_eq]; first | exact absurd c64 c86 | exact absurd c86 c64 | simp [opD, c15, c35, c55, c64, c70, c76, c86] | simp [opD, c15, c35, c55, c64, c76, c86] | simp [opD, c15, c35, c55, c64, c70, c76] | simp [opD, c15, c35, c55, c64, c76]), rfl⟩
            · refine v_iconst (v := 0) X (dk D_Rf_operator 42 rfl) (by decide) ?_
              refine v_goto (tgt := 96) X (dk D_Rf_operator 43 rfl) (by decide) ?_
              exact v_iret X hlk hrt (dk D_Rf_operator 50 rfl) ⟨congrArg (fun z => some (Value.int z)) (by rw [opN_eq]; first | exact absurd c64 c86 | exact absurd c86 c64 | simp [opD, c15, c35, c55, c64, c70, c76, c86] | simp [opD, c15, c35, c55, c64, c76, c86] | simp [opD, c15, c35, c55, c64, c70, c76] | simp [opD, c15, c35, c55, c64, c76]), rfl⟩
      · refine v_bipush (v := 41) X (dk D_Rf_operator 31 rfl) (by decide) ?_
        exact v_iret X hlk hrt (dk D_Rf_operator 32 rfl) ⟨congrArg (fun z => some (Value.int z)) (by rw [opN_eq]; first | simp [opD, c15, c35, c55]), rfl⟩
    · refine v_iload_n X (dk D_Rf_operator 21 rfl) rfl ?_
      refine v_bipush (v := 38) X (dk D_Rf_operator 22 rfl) (by decide) ?_
      refine v_icmp_ne (tgt := 49) X (dk D_Rf_operator 23 rfl) (by decide) (fun c41 => ?_) (fun c41 => ?_)
      · refine v_bipush (v := 51) X (dk D_Rf_operator 26 rfl) (by decide) ?_
        exact v_iret X hlk hrt (dk D_Rf_operator 27 rfl) ⟨congrArg (fun z => some (Value.int z)) (by rw [opN_eq]; first | simp [opD, c15, c35, c41]), rfl⟩
      · refine v_bipush (v := 21) X (dk D_Rf_operator 24 rfl) (by decide) ?_
        refine v_goto (tgt := 51) X (dk D_Rf_operator 25 rfl) (by decide) ?_
        exact v_iret X hlk hrt (dk D_Rf_operator 27 rfl) ⟨congrArg (fun z => some (Value.int z)) (by rw [opN_eq]; first | simp [opD, c15, c35, c41]), rfl⟩
  · refine v_iload_n X (dk D_Rf_operator 11 rfl) rfl ?_
    refine v_bipush (v := 124) X (dk D_Rf_operator 12 rfl) (by decide) ?_
    refine v_icmp_ne (tgt := 29) X (dk D_Rf_operator 13 rfl) (by decide) (fun c21 => ?_) (fun c21 => ?_)
    · refine v_bipush (v := 31) X (dk D_Rf_operator 16 rfl) (by decide) ?_
      exact v_iret X hlk hrt (dk D_Rf_operator 17 rfl) ⟨congrArg (fun z => some (Value.int z)) (by rw [opN_eq]; first | simp [opD, c15, c21]), rfl⟩
    · refine v_bipush (v := 11) X (dk D_Rf_operator 14 rfl) (by decide) ?_
      refine v_goto (tgt := 31) X (dk D_Rf_operator 15 rfl) (by decide) ?_
      exact v_iret X hlk hrt (dk D_Rf_operator 17 rfl) ⟨congrArg (fun z => some (Value.int z)) (by rw [opN_eq]; first | simp [opD, c15, c21]), rfl⟩
theorem lng_11 : ∀ k, k < 18 → nI (oc k) = 11 → (sgO k).length = 2 := by decide +kernel
theorem lng_21 : ∀ k, k < 18 → nI (oc k) = 21 → (sgO k).length = 2 := by decide +kernel
theorem lng_61 : ∀ k, k < 18 → nI (oc k) = 61 → (sgO k).length = 2 := by decide +kernel
theorem lng_62 : ∀ k, k < 18 → nI (oc k) = 62 → (sgO k).length = 2 := by decide +kernel
theorem lng_73 : ∀ k, k < 18 → nI (oc k) = 73 → (sgO k).length = 2 := by decide +kernel
theorem lng_74 : ∀ k, k < 18 → nI (oc k) = 74 → (sgO k).length = 2 := by decide +kernel
theorem lng_81 : ∀ k, k < 18 → nI (oc k) = 81 → (sgO k).length = 2 := by decide +kernel
theorem lng_82 : ∀ k, k < 18 → nI (oc k) = 82 → (sgO k).length = 2 := by decide +kernel
theorem lng_or : ∀ k, k < 18 → (sgO k).length = 2 → nI (oc k) = 11 ∨ nI (oc k) = 21 ∨ nI (oc k) = 61 ∨ nI (oc k) = 62 ∨ nI (oc k) = 73 ∨ nI (oc k) = 74 ∨ nI (oc k) = 81 ∨ nI (oc k) = 82 := by decide +kernel
theorem lng_no (k : Nat) (hk : k < 18) (c3 : ¬ nI (oc k) = 11) (c9 : ¬ nI (oc k) = 21) (c15 : ¬ nI (oc k) = 61) (c21 : ¬ nI (oc k) = 62) (c27 : ¬ nI (oc k) = 73) (c33 : ¬ nI (oc k) = 74) (c39 : ¬ nI (oc k) = 81) (c45 : ¬ nI (oc k) = 82) : ¬ (sgO k).length = 2 := fun h => by
  rcases lng_or k hk h with z | z | z | z | z | z | z | z
  · exact c3 z
  · exact c9 z
  · exact c15 z
  · exact c21 z
  · exact c27 z
  · exact c33 z
  · exact c39 z
  · exact c45 z
set_option maxHeartbeats 4000000 in
set_option maxRecDepth 100000 in
theorem r_isLong (l : Launch) (q : ev_T) {k : Nat} {g : mu_T} (hk : k < 18) : Ctr l q M_Rf_isLong 0 [.int (nI (oc k))] (0, 0, g) (fun v w => v = some (.int (if (sgO k).length = 2 then 1 else 0)) ∧ w.2.2 = g) := by

  refine Ctr.mk (lb := [some (.int (nI (oc k)))]) (by decide +kernel) (Nat.le_of_ble_eq_true rfl) rfl rfl ?_
  intro pp ee ss mm aa bb mt cd X hrt hlk hnm
  refine v_iload_n X (dk D_Rf_isLong 0 rfl) rfl ?_
  refine v_bipush (v := 11) X (dk D_Rf_isLong 1 rfl) (by decide) ?_
  refine v_icmp_eq (tgt := 48) X (dk D_Rf_isLong 2 rfl) (by decide) (fun c3 => ?_) (fun c3 => ?_)
  · refine v_iconst (v := 1) X (dk D_Rf_isLong 24 rfl) (by decide) ?_
    refine v_goto (tgt := 53) X (dk D_Rf_isLong 25 rfl) (by decide) ?_
    exact v_zret X hlk hrt rfl (dk D_Rf_isLong 27 rfl) ⟨by first | rw [if_pos (lng_11 k hk c3)] | rw [if_pos (lng_21 k hk c9)] | rw [if_pos (lng_61 k hk c15)] | rw [if_pos (lng_62 k hk c21)] | rw [if_pos (lng_73 k hk c27)] | rw [if_pos (lng_74 k hk c33)] | rw [if_pos (lng_81 k hk c39)] | rw [if_pos (lng_82 k hk c45)] | rw [if_neg (lng_no k hk c3 c9 c15 c21 c27 c33 c39 c45)], rfl⟩
  · refine v_iload_n X (dk D_Rf_isLong 3 rfl) rfl ?_
    refine v_bipush (v := 21) X (dk D_Rf_isLong 4 rfl) (by decide) ?_
    refine v_icmp_eq (tgt := 48) X (dk D_Rf_isLong 5 rfl) (by decide) (fun c9 => ?_) (fun c9 => ?_)
    · refine v_iconst (v := 1) X (dk D_Rf_isLong 24 rfl) (by decide) ?_
      refine v_goto (tgt := 53) X (dk D_Rf_isLong 25 rfl) (by decide) ?_
      exact v_zret X hlk hrt rfl (dk D_Rf_isLong 27 rfl) ⟨by first | rw [if_pos (lng_11 k hk c3)] | rw [if_pos (lng_21 k hk c9)] | rw [if_pos (lng_61 k hk c15)] | rw [if_pos (lng_62 k hk c21)] | rw [if_pos (lng_73 k hk c27)] | rw [if_pos (lng_74 k hk c33)] | rw [if_pos (lng_81 k hk c39)] | rw [if_pos (lng_82 k hk c45)] | rw [if_neg (lng_no k hk c3 c9 c15 c21 c27 c33 c39 c45)], rfl⟩
    · refine v_iload_n X (dk D_Rf_isLong 6 rfl) rfl ?_
      refine v_bipush (v := 61) X (dk D_Rf_isLong 7 rfl) (by decide) ?_
      refine v_icmp_eq (tgt := 48) X (dk D_Rf_isLong 8 rfl) (by decide) (fun c15 => ?_) (fun c15 => ?_)
      · refine v_iconst (v := 1) X (dk D_Rf_isLong 24 rfl) (by decide) ?_
        refine v_goto (tgt := 53) X (dk D_Rf_isLong 25 rfl) (by decide) ?_
        exact v_zret X hlk hrt rfl (dk D_Rf_isLong 27 rfl) ⟨by first | rw [if_pos (lng_11 k hk c3)] | rw [if_pos (lng_21 k hk c9)] | rw [if_pos (lng_61 k hk c15)] | rw [if_pos (lng_62 k hk c21)] | rw [if_pos (lng_73 k hk c27)] | rw [if_pos (lng_74 k hk c33)] | rw [if_pos (lng_81 k hk c39)] | rw [if_pos (lng_82 k hk c45)] | rw [if_neg (lng_no k hk c3 c9 c15 c21 c27 c33 c39 c45)], rfl⟩
      · refine v_iload_n X (dk D_Rf_isLong 9 rfl) rfl ?_
        refine v_bipush (v := 62) X (dk D_Rf_isLong 10 rfl) (by decide) ?_
        refine v_icmp_eq (tgt := 48) X (dk D_Rf_isLong 11 rfl) (by decide) (fun c21 => ?_) (fun c21 => ?_)
        · refine v_iconst (v := 1) X (dk D_Rf_isLong 24 rfl) (by decide) ?_
          refine v_goto (tgt := 53) X (dk D_Rf_isLong 25 rfl) (by decide) ?_
          exact v_zret X hlk hrt rfl (dk D_Rf_isLong 27 rfl) ⟨by first | rw [if_pos (lng_11 k hk c3)] | rw [if_pos (lng_21 k hk c9)] | rw [if_pos (lng_61 k hk c15)] | rw [if_pos (lng_62 k hk c21)] | rw [if_pos (lng_73 k hk c27)] | rw [if_pos (lng_74 k hk c33)] | rw [if_pos (lng_81 k hk c39)] | rw [if_pos (lng_82 k hk c45)] | rw [if_neg (lng_no k hk c3 c9 c15 c21 c27 c33 c39 c45)], rfl⟩
        · refine v_iload_n X (dk D_Rf_isLong 12 rfl) rfl ?_
          refine v_bipush (v := 73) X (dk D_Rf_isLong 13 rfl) (by decide) ?_
          refine v_icmp_eq (tgt := 48) X (dk D_Rf_isLong 14 rfl) (by decide) (fun c27 => ?_) (fun c27 => ?_)
          · refine v_iconst (v := 1) X (dk D_Rf_isLong 24 rfl) (by decide) ?_
            refine v_goto (tgt := 53) X (dk D_Rf_isLong 25 rfl) (by decide) ?_
            exact v_zret X hlk hrt rfl (dk D_Rf_isLong 27 rfl) ⟨by first | rw [if_pos (lng_11 k hk c3)] | rw [if_pos (lng_21 k hk c9)] | rw [if_pos (lng_61 k hk c15)] | rw [if_pos (lng_62 k hk c21)] | rw [if_pos (lng_73 k hk c27)] | rw [if_pos (lng_74 k hk c33)] | rw [if_pos (lng_81 k hk c39)] | rw [if_pos (lng_82 k hk c45)] | rw [if_neg (lng_no k hk c3 c9 c15 c21 c27 c33 c39 c45)], rfl⟩
          · refine v_iload_n X (dk D_Rf_isLong 15 rfl) rfl ?_
            refine v_bipush (v := 74) X (dk D_Rf_isLong 16 rfl) (by decide) ?_
            refine v_icmp_eq (tgt := 48) X (dk D_Rf_isLong 17 rfl) (by decide) (fun c33 => ?_) (fun c33 => ?_)
            · refine v_iconst (v := 1) X (dk D_Rf_isLong 24 rfl) (by decide) ?_
              refine v_goto (tgt := 53) X (dk D_Rf_isLong 25 rfl) (by decide) ?_
              exact v_zret X hlk hrt rfl (dk D_Rf_isLong 27 rfl) ⟨by first | rw [if_pos (lng_11 k hk c3)] | rw [if_pos (lng_21 k hk c9)] | rw [if_pos (lng_61 k hk c15)] | rw [if_pos (lng_62 k hk c21)] | rw [if_pos (lng_73 k hk c27)] | rw [if_pos (lng_74 k hk c33)] | rw [if_pos (lng_81 k hk c39)] | rw [if_pos (lng_82 k hk c45)] | rw [if_neg (lng_no k hk c3 c9 c15 c21 c27 c33 c39 c45)], rfl⟩
            · refine v_iload_n X (dk D_Rf_isLong 18 rfl) rfl ?_
              refine v_bipush (v := 81) X (dk D_Rf_isLong 19 rfl) (by decide) ?_
              refine v_icmp_eq (tgt := 48) X (dk D_Rf_isLong 20 rfl) (by decide) (fun c39 => ?_) (fun c39 => ?_)
              · refine v_iconst (v := 1) X (dk D_Rf_isLong 24 rfl) (by decide) ?_
                refine v_goto (tgt := 53) X (dk D_Rf_isLong 25 rfl) (by decide) ?_
                exact v_zret X hlk hrt rfl (dk D_Rf_isLong 27 rfl) ⟨by first | rw [if_pos (lng_11 k hk c3)] | rw [if_pos (lng_21 k hk c9)] | rw [if_pos (lng_61 k hk c15)] | rw [if_pos (lng_62 k hk c21)] | rw [if_pos (lng_73 k hk c27)] | rw [if_pos (lng_74 k hk c33)] | rw [if_pos (lng_81 k hk c39)] | rw [if_pos (lng_82 k hk c45)] | rw [if_neg (lng_no k hk c3 c9 c15 c21 c27 c33 c39 c45)], rfl⟩
              · refine v_iload_n X (dk D_Rf_isLong 21 rfl) rfl ?_
                refine v_bipush (v := 82) X (dk D_Rf_isLong 22 rfl) (by decide) ?_
                refine v_icmp_ne (tgt := 52) X (dk D_Rf_isLong 23 rfl) (by decide) (fun c45 => ?_) (fun c45 => ?_)
                · refine v_iconst (v := 0) X (dk D_Rf_isLong 26 rfl) (by decide) ?_
                  exact v_zret X hlk hrt rfl (dk D_Rf_isLong 27 rfl) ⟨by first | rw [if_pos (lng_11 k hk c3)] | rw [if_pos (lng_21 k hk c9)] | rw [if_pos (lng_61 k hk c15)] | rw [if_pos (lng_62 k hk c21)] | rw [if_pos (lng_73 k hk c27)] | rw [if_pos (lng_74 k hk c33)] | rw [if_pos (lng_81 k hk c39)] | rw [if_pos (lng_82 k hk c45)] | rw [if_neg (lng_no k hk c3 c9 c15 c21 c27 c33 c39 c45)], rfl⟩
                · refine v_iconst (v := 1) X (dk D_Rf_isLong 24 rfl) (by decide) ?_
                  refine v_goto (tgt := 53) X (dk D_Rf_isLong 25 rfl) (by decide) ?_
                  exact v_zret X hlk hrt rfl (dk D_Rf_isLong 27 rfl) ⟨by first | rw [if_pos (lng_11 k hk c3)] | rw [if_pos (lng_21 k hk c9)] | rw [if_pos (lng_61 k hk c15)] | rw [if_pos (lng_62 k hk c21)] | rw [if_pos (lng_73 k hk c27)] | rw [if_pos (lng_74 k hk c33)] | rw [if_pos (lng_81 k hk c39)] | rw [if_pos (lng_82 k hk c45)] | rw [if_neg (lng_no k hk c3 c9 c15 c21 c27 c33 c39 c45)], rfl⟩
set_option maxHeartbeats 4000000 in
set_option maxRecDepth 100000 in
theorem r_apply (l : Launch) (q : ev_T) {k : Nat} {a b : Int32} {bz : Bool} {g : mu_T} (hS : Shp g) (hk : k < 18) (hz : gI g 1003 42 = if bz = true then 1 else 0) : Ctr l q M_Rf_apply 0 [.ref 1003, .int (nI (oc k)), .int a, .int b] (0, 0, g) (fun v w => v = some (.int (ofT k a b)) ∧ w.2.2 = if k = 16 ∨ k = 17 then xI g 1003 42 (if (bz || decide (b = 0)) = true then 1 else 0) else g) := by

  refine Ctr.mk (lb := [some (.ref 1003), some (.int (nI (oc k))), some (.int a), some (.int b)]) (by decide +kernel) (Nat.le_of_ble_eq_true rfl) rfl rfl ?_
  intro pp ee ss mm aa bb mt cd X hrt hlk hnm
  have hc : k = 0 ∨ k = 1 ∨ k = 2 ∨ k = 3 ∨ k = 4 ∨ k = 5 ∨ k = 6 ∨ k = 7 ∨ k = 8 ∨ k = 9 ∨ k = 10 ∨ k = 11 ∨ k = 12 ∨ k = 13 ∨ k = 14 ∨ k = 15 ∨ k = 16 ∨ k = 17 := by omega
  rcases hc with rfl | rfl | rfl | rfl | rfl | rfl | rfl | rfl | rfl | rfl | rfl | rfl | rfl | rfl | rfl | rfl | rfl | rfl
  · refine v_iload_n X (dk D_Rf_apply 0 rfl) rfl ?_
    refine v_lookup (off := 139) (tgt := 140) X (dk D_Rf_apply 1 rfl) (by decide) (by decide +kernel) (by decide) ?_
    refine v_iload_n X (dk D_Rf_apply 2 rfl) rfl ?_
    refine v_if_ne (tgt := 148) X (dk D_Rf_apply 3 rfl) (by decide) (fun c141 => ?_) (fun c141 => ?_)
    · refine v_iconst (v := 1) X (dk D_Rf_apply 6 rfl) (by decide) ?_
      refine v_goto (tgt := 153) X (dk D_Rf_apply 7 rfl) (by decide) ?_
      exact v_iret X hlk hrt (dk D_Rf_apply 9 rfl) ⟨congrArg (fun z => some (Value.int z)) (by first | rfl | simp [ofT, c141, c145] | simp [ofT, c141]), rfl⟩
    · refine v_iload_n X (dk D_Rf_apply 4 rfl) rfl ?_
      refine v_if_eq (tgt := 152) X (dk D_Rf_apply 5 rfl) (by decide) (fun c145 => ?_) (fun c145 => ?_)
      · refine v_iconst (v := 0) X (dk D_Rf_apply 8 rfl) (by decide) ?_
        exact v_iret X hlk hrt (dk D_Rf_apply 9 rfl) ⟨congrArg (fun z => some (Value.int z)) (by first | rfl | simp [ofT, c141, c145] | simp [ofT, c141]), rfl⟩
      · refine v_iconst (v := 1) X (dk D_Rf_apply 6 rfl) (by decide) ?_
        refine v_goto (tgt := 153) X (dk D_Rf_apply 7 rfl) (by decide) ?_
        exact v_iret X hlk hrt (dk D_Rf_apply 9 rfl) ⟨congrArg (fun z => some (Value.int z)) (by first | rfl | simp [ofT, c141, c145] | simp [ofT, c141]), rfl⟩
  · refine v_iload_n X (dk D_Rf_apply 0 rfl) rfl ?_
    refine v_lookup (off := 153) (tgt := 154) X (dk D_Rf_apply 1 rfl) (by decide) (by decide +kernel) (by decide) ?_
    refine v_iload_n X (dk D_Rf_apply 10 rfl) rfl ?_
    refine v_if_eq (tgt := 166) X (dk D_Rf_apply 11 rfl) (by decide) (fun c155 => ?_) (fun c155 => ?_)
    · refine v_iconst (v := 0) X (dk D_Rf_apply 16 rfl) (by decide) ?_
      exact v_iret X hlk hrt (dk D_Rf_apply 17 rfl) ⟨congrArg (fun z => some (Value.int z)) (by first | rfl | simp [ofT, c155, c159] | simp [ofT, c155]), rfl⟩
    · refine v_iload_n X (dk D_Rf_apply 12 rfl) rfl ?_
      refine v_if_eq (tgt := 166) X (dk D_Rf_apply 13 rfl) (by decide) (fun c159 => ?_) (fun c159 => ?_)
      · refine v_iconst (v := 0) X (dk D_Rf_apply 16 rfl) (by decide) ?_
        exact v_iret X hlk hrt (dk D_Rf_apply 17 rfl) ⟨congrArg (fun z => some (Value.int z)) (by first | rfl | simp [ofT, c155, c159] | simp [ofT, c155]), rfl⟩
      · refine v_iconst (v := 1) X (dk D_Rf_apply 14 rfl) (by decide) ?_
        refine v_goto (tgt := 167) X (dk D_Rf_apply 15 rfl) (by decide) ?_
        exact v_iret X hlk hrt (dk D_Rf_apply 17 rfl) ⟨congrArg (fun z => some (Value.int z)) (by first | rfl | simp [ofT, c155, c159] | simp [ofT, c155]), rfl⟩
  · refine v_iload_n X (dk D_Rf_apply 0 rfl) rfl ?_
    refine v_lookup (off := 179) (tgt := 180) X (dk D_Rf_apply 1 rfl) (by decide) (by decide +kernel) (by decide) ?_
    refine v_iload_n X (dk D_Rf_apply 30 rfl) rfl ?_
    refine v_iload_n X (dk D_Rf_apply 31 rfl) rfl ?_
    refine v_icmp_ne (tgt := 189) X (dk D_Rf_apply 32 rfl) (by decide) (fun c182 => ?_) (fun c182 => ?_)
    · refine v_iconst (v := 0) X (dk D_Rf_apply 35 rfl) (by decide) ?_
      exact v_iret X hlk hrt (dk D_Rf_apply 36 rfl) ⟨congrArg (fun z => some (Value.int z)) (by first | rfl | simp [ofT, c182] | simp [ofT, c182]), rfl⟩
    · refine v_iconst (v := 1) X (dk D_Rf_apply 33 rfl) (by decide) ?_
      refine v_goto (tgt := 190) X (dk D_Rf_apply 34 rfl) (by decide) ?_
      exact v_iret X hlk hrt (dk D_Rf_apply 36 rfl) ⟨congrArg (fun z => some (Value.int z)) (by first | rfl | simp [ofT, c182] | simp [ofT, c182]), rfl⟩
  · refine v_iload_n X (dk D_Rf_apply 0 rfl) rfl ?_
    refine v_lookup (off := 190) (tgt := 191) X (dk D_Rf_apply 1 rfl) (by decide) (by decide +kernel) (by decide) ?_
    refine v_iload_n X (dk D_Rf_apply 37 rfl) rfl ?_
    refine v_iload_n X (dk D_Rf_apply 38 rfl) rfl ?_
    refine v_icmp_eq (tgt := 200) X (dk D_Rf_apply 39 rfl) (by decide) (fun c193 => ?_) (fun c193 => ?_)
    · refine v_iconst (v := 0) X (dk D_Rf_apply 42 rfl) (by decide) ?_
      exact v_iret X hlk hrt (dk D_Rf_apply 43 rfl) ⟨congrArg (fun z => some (Value.int z)) (by first | rfl | simp [ofT, c193] | simp [ofT, c193]), rfl⟩
    · refine v_iconst (v := 1) X (dk D_Rf_apply 40 rfl) (by decide) ?_
      refine v_goto (tgt := 201) X (dk D_Rf_apply 41 rfl) (by decide) ?_
      exact v_iret X hlk hrt (dk D_Rf_apply 43 rfl) ⟨congrArg (fun z => some (Value.int z)) (by first | rfl | simp [ofT, c193] | simp [ofT, c193]), rfl⟩
  · refine v_iload_n X (dk D_Rf_apply 0 rfl) rfl ?_
    refine v_lookup (off := 223) (tgt := 224) X (dk D_Rf_apply 1 rfl) (by decide) (by decide +kernel) (by decide) ?_
    refine v_iload_n X (dk D_Rf_apply 58 rfl) rfl ?_
    refine v_iload_n X (dk D_Rf_apply 59 rfl) rfl ?_
    refine v_icmp_gt (tgt := 233) X (dk D_Rf_apply 60 rfl) (by decide) (fun c226 => ?_) (fun c226 => ?_)
    · refine v_iconst (v := 0) X (dk D_Rf_apply 63 rfl) (by decide) ?_
      exact v_iret X hlk hrt (dk D_Rf_apply 64 rfl) ⟨congrArg (fun z => some (Value.int z)) (by first | rfl | simp [ofT, c226] | simp [ofT, c226]), rfl⟩
    · refine v_iconst (v := 1) X (dk D_Rf_apply 61 rfl) (by decide) ?_
      refine v_goto (tgt := 234) X (dk D_Rf_apply 62 rfl) (by decide) ?_
      exact v_iret X hlk hrt (dk D_Rf_apply 64 rfl) ⟨congrArg (fun z => some (Value.int z)) (by first | rfl | simp [ofT, c226] | simp [ofT, c226]), rfl⟩
  · refine v_iload_n X (dk D_Rf_apply 0 rfl) rfl ?_
    refine v_lookup (off := 234) (tgt := 235) X (dk D_Rf_apply 1 rfl) (by decide) (by decide +kernel) (by decide) ?_
    refine v_iload_n X (dk D_Rf_apply 65 rfl) rfl ?_
    refine v_iload_n X (dk D_Rf_apply 66 rfl) rfl ?_
    refine v_icmp_lt (tgt := 244) X (dk D_Rf_apply 67 rfl) (by decide) (fun c237 => ?_) (fun c237 => ?_)
    · refine v_iconst (v := 0) X (dk D_Rf_apply 70 rfl) (by decide) ?_
      exact v_iret X hlk hrt (dk D_Rf_apply 71 rfl) ⟨congrArg (fun z => some (Value.int z)) (by first | rfl | simp [ofT, c237] | simp [ofT, c237]), rfl⟩
    · refine v_iconst (v := 1) X (dk D_Rf_apply 68 rfl) (by decide) ?_
      refine v_goto (tgt := 245) X (dk D_Rf_apply 69 rfl) (by decide) ?_
      exact v_iret X hlk hrt (dk D_Rf_apply 71 rfl) ⟨congrArg (fun z => some (Value.int z)) (by first | rfl | simp [ofT, c237] | simp [ofT, c237]), rfl⟩
  · refine v_iload_n X (dk D_Rf_apply 0 rfl) rfl ?_
    refine v_lookup (off := 245) (tgt := 246) X (dk D_Rf_apply 1 rfl) (by decide) (by decide +kernel) (by decide) ?_
    refine v_iload_n X (dk D_Rf_apply 72 rfl) rfl ?_
    refine v_iload_n X (dk D_Rf_apply 73 rfl) rfl ?_
    refine v_bipush (v := 31) X (dk D_Rf_apply 74 rfl) (by decide) ?_
    refine v_iand X (dk D_Rf_apply 75 rfl) ?_
    refine v_ishl X (dk D_Rf_apply 76 rfl) ?_
    exact v_iret X hlk hrt (dk D_Rf_apply 77 rfl) ⟨congrArg (fun z => some (Value.int z)) (by first | rfl), rfl⟩
  · refine v_iload_n X (dk D_Rf_apply 0 rfl) rfl ?_
    refine v_lookup (off := 252) (tgt := 253) X (dk D_Rf_apply 1 rfl) (by decide) (by decide +kernel) (by decide) ?_
    refine v_iload_n X (dk D_Rf_apply 78 rfl) rfl ?_
    refine v_iload_n X (dk D_Rf_apply 79 rfl) rfl ?_
    refine v_bipush (v := 31) X (dk D_Rf_apply 80 rfl) (by decide) ?_
    refine v_iand X (dk D_Rf_apply 81 rfl) ?_
    refine v_ishr X (dk D_Rf_apply 82 rfl) ?_
    exact v_iret X hlk hrt (dk D_Rf_apply 83 rfl) ⟨congrArg (fun z => some (Value.int z)) (by first | rfl), rfl⟩
  · refine v_iload_n X (dk D_Rf_apply 0 rfl) rfl ?_
    refine v_lookup (off := 167) (tgt := 168) X (dk D_Rf_apply 1 rfl) (by decide) (by decide +kernel) (by decide) ?_
    refine v_iload_n X (dk D_Rf_apply 18 rfl) rfl ?_
    refine v_iload_n X (dk D_Rf_apply 19 rfl) rfl ?_
    refine v_ior X (dk D_Rf_apply 20 rfl) ?_
    exact v_iret X hlk hrt (dk D_Rf_apply 21 rfl) ⟨congrArg (fun z => some (Value.int z)) (by first | rfl), rfl⟩
  · refine v_iload_n X (dk D_Rf_apply 0 rfl) rfl ?_
    refine v_lookup (off := 171) (tgt := 172) X (dk D_Rf_apply 1 rfl) (by decide) (by decide +kernel) (by decide) ?_
    refine v_iload_n X (dk D_Rf_apply 22 rfl) rfl ?_
    refine v_iload_n X (dk D_Rf_apply 23 rfl) rfl ?_
    refine v_ixor X (dk D_Rf_apply 24 rfl) ?_
    exact v_iret X hlk hrt (dk D_Rf_apply 25 rfl) ⟨congrArg (fun z => some (Value.int z)) (by first | rfl), rfl⟩
  · refine v_iload_n X (dk D_Rf_apply 0 rfl) rfl ?_
    refine v_lookup (off := 175) (tgt := 176) X (dk D_Rf_apply 1 rfl) (by decide) (by decide +kernel) (by decide) ?_
    refine v_iload_n X (dk D_Rf_apply 26 rfl) rfl ?_
    refine v_iload_n X (dk D_Rf_apply 27 rfl) rfl ?_
    refine v_iand X (dk D_Rf_apply 28 rfl) ?_
    exact v_iret X hlk hrt (dk D_Rf_apply 29 rfl) ⟨congrArg (fun z => some (Value.int z)) (by first | rfl), rfl⟩
  · refine v_iload_n X (dk D_Rf_apply 0 rfl) rfl ?_
    refine v_lookup (off := 201) (tgt := 202) X (dk D_Rf_apply 1 rfl) (by decide) (by decide +kernel) (by decide) ?_
    refine v_iload_n X (dk D_Rf_apply 44 rfl) rfl ?_
    refine v_iload_n X (dk D_Rf_apply 45 rfl) rfl ?_
    refine v_icmp_ge (tgt := 211) X (dk D_Rf_apply 46 rfl) (by decide) (fun c204 => ?_) (fun c204 => ?_)
    · refine v_iconst (v := 0) X (dk D_Rf_apply 49 rfl) (by decide) ?_
      exact v_iret X hlk hrt (dk D_Rf_apply 50 rfl) ⟨congrArg (fun z => some (Value.int z)) (by first | rfl | simp [ofT, c204] | simp [ofT, c204]), rfl⟩
    · refine v_iconst (v := 1) X (dk D_Rf_apply 47 rfl) (by decide) ?_
      refine v_goto (tgt := 212) X (dk D_Rf_apply 48 rfl) (by decide) ?_
      exact v_iret X hlk hrt (dk D_Rf_apply 50 rfl) ⟨congrArg (fun z => some (Value.int z)) (by first | rfl | simp [ofT, c204] | simp [ofT, c204]), rfl⟩
  · refine v_iload_n X (dk D_Rf_apply 0 rfl) rfl ?_
    refine v_lookup (off := 212) (tgt := 213) X (dk D_Rf_apply 1 rfl) (by decide) (by decide +kernel) (by decide) ?_
    refine v_iload_n X (dk D_Rf_apply 51 rfl) rfl ?_
    refine v_iload_n X (dk D_Rf_apply 52 rfl) rfl ?_
    refine v_icmp_le (tgt := 222) X (dk D_Rf_apply 53 rfl) (by decide) (fun c215 => ?_) (fun c215 => ?_)
    · refine v_iconst (v := 0) X (dk D_Rf_apply 56 rfl) (by decide) ?_
      exact v_iret X hlk hrt (dk D_Rf_apply 57 rfl) ⟨congrArg (fun z => some (Value.int z)) (by first | rfl | simp [ofT, c215] | simp [ofT, c215]), rfl⟩
    · refine v_iconst (v := 1) X (dk D_Rf_apply 54 rfl) (by decide) ?_
      refine v_goto (tgt := 223) X (dk D_Rf_apply 55 rfl) (by decide) ?_
      exact v_iret X hlk hrt (dk D_Rf_apply 57 rfl) ⟨congrArg (fun z => some (Value.int z)) (by first | rfl | simp [ofT, c215] | simp [ofT, c215]), rfl⟩
  · refine v_iload_n X (dk D_Rf_apply 0 rfl) rfl ?_
    refine v_lookup (off := 259) (tgt := 260) X (dk D_Rf_apply 1 rfl) (by decide) (by decide +kernel) (by decide) ?_
    refine v_iload_n X (dk D_Rf_apply 84 rfl) rfl ?_
    refine v_iload_n X (dk D_Rf_apply 85 rfl) rfl ?_
    refine v_iadd X (dk D_Rf_apply 86 rfl) ?_
    exact v_iret X hlk hrt (dk D_Rf_apply 87 rfl) ⟨congrArg (fun z => some (Value.int z)) (by first | rfl), rfl⟩
  · refine v_iload_n X (dk D_Rf_apply 0 rfl) rfl ?_
    refine v_lookup (off := 263) (tgt := 264) X (dk D_Rf_apply 1 rfl) (by decide) (by decide +kernel) (by decide) ?_
    refine v_iload_n X (dk D_Rf_apply 88 rfl) rfl ?_
    refine v_iload_n X (dk D_Rf_apply 89 rfl) rfl ?_
    refine v_isub X (dk D_Rf_apply 90 rfl) ?_
    exact v_iret X hlk hrt (dk D_Rf_apply 91 rfl) ⟨congrArg (fun z => some (Value.int z)) (by first | rfl), rfl⟩
  · refine v_iload_n X (dk D_Rf_apply 0 rfl) rfl ?_
    refine v_lookup (off := 267) (tgt := 268) X (dk D_Rf_apply 1 rfl) (by decide) (by decide +kernel) (by decide) ?_
    refine v_iload_n X (dk D_Rf_apply 92 rfl) rfl ?_
    refine v_iload_n X (dk D_Rf_apply 93 rfl) rfl ?_
    refine v_imul X (dk D_Rf_apply 94 rfl) ?_
    exact v_iret X hlk hrt (dk D_Rf_apply 95 rfl) ⟨congrArg (fun z => some (Value.int z)) (by first | rfl), rfl⟩
  · by_cases hb : b = 0
    · cases bz with
      | true =>
        refine v_iload_n X (dk D_Rf_apply 0 rfl) rfl ?_
        refine v_lookup (off := 271) (tgt := 272) X (dk D_Rf_apply 1 rfl) (by decide) (by decide +kernel) (by decide) ?_
        refine v_aload_n X (dk D_Rf_apply 96 rfl) rfl ?_
        refine v_aload_n X (dk D_Rf_apply 97 rfl) rfl ?_
        refine v_getI X (dk D_Rf_apply 98 rfl) F_Rf_347 rfl rfl (hS.lt (by decide)) ?_
        refine v_if_ne (tgt := 284) X (dk D_Rf_apply 99 rfl) (by decide) (fun _ => ?_) (fun c277 => absurd c277 (by rw [hz]; decide))
        refine v_iconst (v := 1) X (dk D_Rf_apply 102 rfl) (by decide) ?_
        refine v_goto (tgt := 289) X (dk D_Rf_apply 103 rfl) (by decide) ?_
        refine v_putI X (dk D_Rf_apply 105 rfl) F_Rf_347 CK_Rf rfl rfl (hS.lt (by decide)) rfl rfl ?_
        refine v_iload_n X (dk D_Rf_apply 106 rfl) rfl ?_
        refine v_if_ne (tgt := 300) X (dk D_Rf_apply 107 rfl) (by decide) (fun c293 => absurd hb c293) (fun _ => ?_)
        refine v_iconst (v := 0) X (dk D_Rf_apply 108 rfl) (by decide) ?_
        refine v_goto (tgt := 315) X (dk D_Rf_apply 109 rfl) (by decide) ?_
        exact v_iret X hlk hrt (dk D_Rf_apply 120 rfl) ⟨congrArg (fun z => some (Value.int z)) (by simp [ofT, hb]), by rw [if_pos (Or.inl rfl)]; simp [hb]⟩
      | false =>
        refine v_iload_n X (dk D_Rf_apply 0 rfl) rfl ?_
        refine v_lookup (off := 271) (tgt := 272) X (dk D_Rf_apply 1 rfl) (by decide) (by decide +kernel) (by decide) ?_
        refine v_aload_n X (dk D_Rf_apply 96 rfl) rfl ?_
        refine v_aload_n X (dk D_Rf_apply 97 rfl) rfl ?_
        refine v_getI X (dk D_Rf_apply 98 rfl) F_Rf_347 rfl rfl (hS.lt (by decide)) ?_
        refine v_if_ne (tgt := 284) X (dk D_Rf_apply 99 rfl) (by decide) (fun c277 => absurd (by rw [hz]; rfl) c277) (fun _ => ?_)
        refine v_iload_n X (dk D_Rf_apply 100 rfl) rfl ?_
        refine v_if_ne (tgt := 288) X (dk D_Rf_apply 101 rfl) (by decide) (fun c281 => absurd hb c281) (fun _ => ?_)
        refine v_iconst (v := 1) X (dk D_Rf_apply 102 rfl) (by decide) ?_
        refine v_goto (tgt := 289) X (dk D_Rf_apply 103 rfl) (by decide) ?_
        refine v_putI X (dk D_Rf_apply 105 rfl) F_Rf_347 CK_Rf rfl rfl (hS.lt (by decide)) rfl rfl ?_
        refine v_iload_n X (dk D_Rf_apply 106 rfl) rfl ?_
        refine v_if_ne (tgt := 300) X (dk D_Rf_apply 107 rfl) (by decide) (fun c293 => absurd hb c293) (fun _ => ?_)
        refine v_iconst (v := 0) X (dk D_Rf_apply 108 rfl) (by decide) ?_
        refine v_goto (tgt := 315) X (dk D_Rf_apply 109 rfl) (by decide) ?_
        exact v_iret X hlk hrt (dk D_Rf_apply 120 rfl) ⟨congrArg (fun z => some (Value.int z)) (by simp [ofT, hb]), by rw [if_pos (Or.inl rfl)]; simp [hb]⟩
    · cases bz with
      | true =>
        refine v_iload_n X (dk D_Rf_apply 0 rfl) rfl ?_
        refine v_lookup (off := 271) (tgt := 272) X (dk D_Rf_apply 1 rfl) (by decide) (by decide +kernel) (by decide) ?_
        refine v_aload_n X (dk D_Rf_apply 96 rfl) rfl ?_
        refine v_aload_n X (dk D_Rf_apply 97 rfl) rfl ?_
        refine v_getI X (dk D_Rf_apply 98 rfl) F_Rf_347 rfl rfl (hS.lt (by decide)) ?_
        refine v_if_ne (tgt := 284) X (dk D_Rf_apply 99 rfl) (by decide) (fun _ => ?_) (fun c277 => absurd c277 (by rw [hz]; decide))
        refine v_iconst (v := 1) X (dk D_Rf_apply 102 rfl) (by decide) ?_
        refine v_goto (tgt := 289) X (dk D_Rf_apply 103 rfl) (by decide) ?_
        refine v_putI X (dk D_Rf_apply 105 rfl) F_Rf_347 CK_Rf rfl rfl (hS.lt (by decide)) rfl rfl ?_
        refine v_iload_n X (dk D_Rf_apply 106 rfl) rfl ?_
        refine v_if_ne (tgt := 300) X (dk D_Rf_apply 107 rfl) (by decide) (fun _ => ?_) (fun c293 => absurd c293 hb)
        refine v_iload_n X (dk D_Rf_apply 110 rfl) rfl ?_
        refine v_bipush (v := 102) X (dk D_Rf_apply 111 rfl) (by decide) ?_
        refine v_icmp_ne (tgt := 312) X (dk D_Rf_apply 112 rfl) (by decide) (fun c303 => absurd rfl c303) (fun _ => ?_)
        refine v_iload_n X (dk D_Rf_apply 113 rfl) rfl ?_
        refine v_iload_n X (dk D_Rf_apply 114 rfl) rfl ?_
        refine v_idiv X (dk D_Rf_apply 115 rfl) hb ?_
        refine v_goto (tgt := 315) X (dk D_Rf_apply 116 rfl) (by decide) ?_
        exact v_iret X hlk hrt (dk D_Rf_apply 120 rfl) ⟨congrArg (fun z => some (Value.int z)) (by simp [ofT, hb]), by rw [if_pos (Or.inl rfl)]; simp [hb]⟩
      | false =>
        refine v_iload_n X (dk D_Rf_apply 0 rfl) rfl ?_
        refine v_lookup (off := 271) (tgt := 272) X (dk D_Rf_apply 1 rfl) (by decide) (by decide +kernel) (by decide) ?_
        refine v_aload_n X (dk D_Rf_apply 96 rfl) rfl ?_
        refine v_aload_n X (dk D_Rf_apply 97 rfl) rfl ?_
        refine v_getI X (dk D_Rf_apply 98 rfl) F_Rf_347 rfl rfl (hS.lt (by decide)) ?_
        refine v_if_ne (tgt := 284) X (dk D_Rf_apply 99 rfl) (by decide) (fun c277 => absurd (by rw [hz]; rfl) c277) (fun _ => ?_)
        refine v_iload_n X (dk D_Rf_apply 100 rfl) rfl ?_
        refine v_if_ne (tgt := 288) X (dk D_Rf_apply 101 rfl) (by decide) (fun _ => ?_) (fun c281 => absurd c281 hb)
        refine v_iconst (v := 0) X (dk D_Rf_apply 104 rfl) (by decide) ?_
        refine v_putI X (dk D_Rf_apply 105 rfl) F_Rf_347 CK_Rf rfl rfl (hS.lt (by decide)) rfl rfl ?_
        refine v_iload_n X (dk D_Rf_apply 106 rfl) rfl ?_
        refine v_if_ne (tgt := 300) X (dk D_Rf_apply 107 rfl) (by decide) (fun _ => ?_) (fun c293 => absurd c293 hb)
        refine v_iload_n X (dk D_Rf_apply 110 rfl) rfl ?_
        refine v_bipush (v := 102) X (dk D_Rf_apply 111 rfl) (by decide) ?_
        refine v_icmp_ne (tgt := 312) X (dk D_Rf_apply 112 rfl) (by decide) (fun c303 => absurd rfl c303) (fun _ => ?_)
        refine v_iload_n X (dk D_Rf_apply 113 rfl) rfl ?_
        refine v_iload_n X (dk D_Rf_apply 114 rfl) rfl ?_
        refine v_idiv X (dk D_Rf_apply 115 rfl) hb ?_
        refine v_goto (tgt := 315) X (dk D_Rf_apply 116 rfl) (by decide) ?_
        exact v_iret X hlk hrt (dk D_Rf_apply 120 rfl) ⟨congrArg (fun z => some (Value.int z)) (by simp [ofT, hb]), by rw [if_pos (Or.inl rfl)]; simp [hb]⟩
  · by_cases hb : b = 0
    · cases bz with
      | true =>
        refine v_iload_n X (dk D_Rf_apply 0 rfl) rfl ?_
        refine v_lookup (off := 271) (tgt := 272) X (dk D_Rf_apply 1 rfl) (by decide) (by decide +kernel) (by decide) ?_
        refine v_aload_n X (dk D_Rf_apply 96 rfl) rfl ?_
        refine v_aload_n X (dk D_Rf_apply 97 rfl) rfl ?_
        refine v_getI X (dk D_Rf_apply 98 rfl) F_Rf_347 rfl rfl (hS.lt (by decide)) ?_
        refine v_if_ne (tgt := 284) X (dk D_Rf_apply 99 rfl) (by decide) (fun _ => ?_) (fun c277 => absurd c277 (by rw [hz]; decide))
        refine v_iconst (v := 1) X (dk D_Rf_apply 102 rfl) (by decide) ?_
        refine v_goto (tgt := 289) X (dk D_Rf_apply 103 rfl) (by decide) ?_
        refine v_putI X (dk D_Rf_apply 105 rfl) F_Rf_347 CK_Rf rfl rfl (hS.lt (by decide)) rfl rfl ?_
        refine v_iload_n X (dk D_Rf_apply 106 rfl) rfl ?_
        refine v_if_ne (tgt := 300) X (dk D_Rf_apply 107 rfl) (by decide) (fun c293 => absurd hb c293) (fun _ => ?_)
        refine v_iconst (v := 0) X (dk D_Rf_apply 108 rfl) (by decide) ?_
        refine v_goto (tgt := 315) X (dk D_Rf_apply 109 rfl) (by decide) ?_
        exact v_iret X hlk hrt (dk D_Rf_apply 120 rfl) ⟨congrArg (fun z => some (Value.int z)) (by simp [ofT, hb]), by rw [if_pos (Or.inr rfl)]; simp [hb]⟩
      | false =>
        refine v_iload_n X (dk D_Rf_apply 0 rfl) rfl ?_
        refine v_lookup (off := 271) (tgt := 272) X (dk D_Rf_apply 1 rfl) (by decide) (by decide +kernel) (by decide) ?_
        refine v_aload_n X (dk D_Rf_apply 96 rfl) rfl ?_
        refine v_aload_n X (dk D_Rf_apply 97 rfl) rfl ?_
        refine v_getI X (dk D_Rf_apply 98 rfl) F_Rf_347 rfl rfl (hS.lt (by decide)) ?_
        refine v_if_ne (tgt := 284) X (dk D_Rf_apply 99 rfl) (by decide) (fun c277 => absurd (by rw [hz]; rfl) c277) (fun _ => ?_)
        refine v_iload_n X (dk D_Rf_apply 100 rfl) rfl ?_
        refine v_if_ne (tgt := 288) X (dk D_Rf_apply 101 rfl) (by decide) (fun c281 => absurd hb c281) (fun _ => ?_)
        refine v_iconst (v := 1) X (dk D_Rf_apply 102 rfl) (by decide) ?_
        refine v_goto (tgt := 289) X (dk D_Rf_apply 103 rfl) (by decide) ?_
        refine v_putI X (dk D_Rf_apply 105 rfl) F_Rf_347 CK_Rf rfl rfl (hS.lt (by decide)) rfl rfl ?_
        refine v_iload_n X (dk D_Rf_apply 106 rfl) rfl ?_
        refine v_if_ne (tgt := 300) X (dk D_Rf_apply 107 rfl) (by decide) (fun c293 => absurd hb c293) (fun _ => ?_)
        refine v_iconst (v := 0) X (dk D_Rf_apply 108 rfl) (by decide) ?_
        refine v_goto (tgt := 315) X (dk D_Rf_apply 109 rfl) (by decide) ?_
        exact v_iret X hlk hrt (dk D_Rf_apply 120 rfl) ⟨congrArg (fun z => some (Value.int z)) (by simp [ofT, hb]), by rw [if_pos (Or.inr rfl)]; simp [hb]⟩
    · cases bz with
      | true =>
        refine v_iload_n X (dk D_Rf_apply 0 rfl) rfl ?_
        refine v_lookup (off := 271) (tgt := 272) X (dk D_Rf_apply 1 rfl) (by decide) (by decide +kernel) (by decide) ?_
        refine v_aload_n X (dk D_Rf_apply 96 rfl) rfl ?_
        refine v_aload_n X (dk D_Rf_apply 97 rfl) rfl ?_
        refine v_getI X (dk D_Rf_apply 98 rfl) F_Rf_347 rfl rfl (hS.lt (by decide)) ?_
        refine v_if_ne (tgt := 284) X (dk D_Rf_apply 99 rfl) (by decide) (fun _ => ?_) (fun c277 => absurd c277 (by rw [hz]; decide))
        refine v_iconst (v := 1) X (dk D_Rf_apply 102 rfl) (by decide) ?_
        refine v_goto (tgt := 289) X (dk D_Rf_apply 103 rfl) (by decide) ?_
        refine v_putI X (dk D_Rf_apply 105 rfl) F_Rf_347 CK_Rf rfl rfl (hS.lt (by decide)) rfl rfl ?_
        refine v_iload_n X (dk D_Rf_apply 106 rfl) rfl ?_
        refine v_if_ne (tgt := 300) X (dk D_Rf_apply 107 rfl) (by decide) (fun _ => ?_) (fun c293 => absurd c293 hb)
        refine v_iload_n X (dk D_Rf_apply 110 rfl) rfl ?_
        refine v_bipush (v := 102) X (dk D_Rf_apply 111 rfl) (by decide) ?_
        refine v_icmp_ne (tgt := 312) X (dk D_Rf_apply 112 rfl) (by decide) (fun _ => ?_) (fun c303 => absurd c303 (by decide))
        refine v_iload_n X (dk D_Rf_apply 117 rfl) rfl ?_
        refine v_iload_n X (dk D_Rf_apply 118 rfl) rfl ?_
        refine v_irem X (dk D_Rf_apply 119 rfl) hb ?_
        exact v_iret X hlk hrt (dk D_Rf_apply 120 rfl) ⟨congrArg (fun z => some (Value.int z)) (by simp [ofT, hb]), by rw [if_pos (Or.inr rfl)]; simp [hb]⟩
      | false =>
        refine v_iload_n X (dk D_Rf_apply 0 rfl) rfl ?_
        refine v_lookup (off := 271) (tgt := 272) X (dk D_Rf_apply 1 rfl) (by decide) (by decide +kernel) (by decide) ?_
        refine v_aload_n X (dk D_Rf_apply 96 rfl) rfl ?_
        refine v_aload_n X (dk D_Rf_apply 97 rfl) rfl ?_
        refine v_getI X (dk D_Rf_apply 98 rfl) F_Rf_347 rfl rfl (hS.lt (by decide)) ?_
        refine v_if_ne (tgt := 284) X (dk D_Rf_apply 99 rfl) (by decide) (fun c277 => absurd (by rw [hz]; rfl) c277) (fun _ => ?_)
        refine v_iload_n X (dk D_Rf_apply 100 rfl) rfl ?_
        refine v_if_ne (tgt := 288) X (dk D_Rf_apply 101 rfl) (by decide) (fun _ => ?_) (fun c281 => absurd c281 hb)
        refine v_iconst (v := 0) X (dk D_Rf_apply 104 rfl) (by decide) ?_
        refine v_putI X (dk D_Rf_apply 105 rfl) F_Rf_347 CK_Rf rfl rfl (hS.lt (by decide)) rfl rfl ?_
        refine v_iload_n X (dk D_Rf_apply 106 rfl) rfl ?_
        refine v_if_ne (tgt := 300) X (dk D_Rf_apply 107 rfl) (by decide) (fun _ => ?_) (fun c293 => absurd c293 hb)
        refine v_iload_n X (dk D_Rf_apply 110 rfl) rfl ?_
        refine v_bipush (v := 102) X (dk D_Rf_apply 111 rfl) (by decide) ?_
        refine v_icmp_ne (tgt := 312) X (dk D_Rf_apply 112 rfl) (by decide) (fun _ => ?_) (fun c303 => absurd c303 (by decide))
        refine v_iload_n X (dk D_Rf_apply 117 rfl) rfl ?_
        refine v_iload_n X (dk D_Rf_apply 118 rfl) rfl ?_
        refine v_irem X (dk D_Rf_apply 119 rfl) hb ?_
        exact v_iret X hlk hrt (dk D_Rf_apply 120 rfl) ⟨congrArg (fun z => some (Value.int z)) (by simp [ofT, hb]), by rw [if_pos (Or.inr rfl)]; simp [hb]⟩
theorem stl_mem {g h w : mu_T} {k j : Nat} {b : Int32} {bz : Bool} (hh : h = xI g 1003 44 (nI j)) (hz : gI g 1003 42 = if bz = true then 1 else 0) (hw : w = if k = 16 ∨ k = 17 then xI h 1003 42 (if (bz || decide (b = 0)) = true then 1 else 0) else h) : rs g w [42, 44] [] ∧ gI w 1003 44 = nI j ∧ gI w 1003 42 = if (bz || bzT k b) = true then 1 else 0 := by
  have z : rs g h [42, 44] [] := by rw [hh]; exact (rs.rf g _ _).fI (by decide)
  have e44 : gI h 1003 44 = nI j := by rw [hh]; exact gI_eq _ _ _ _
  have e42 : gI h 1003 42 = if bz = true then 1 else 0 := by rw [hh]; exact (gI_nk (by decide)).trans hz
  by_cases c : k = 16 ∨ k = 17
  · rw [if_pos c] at hw
    rw [hw]
    refine ⟨z.fI (by decide), (gI_nk (by decide)).trans e44, (gI_eq _ _ _ _).trans ?_⟩
    rw [bzT, decide_eq_true c, Bool.true_and]
  · rw [if_neg c] at hw
    rw [hw]
    refine ⟨z, e44, e42.trans ?_⟩
    rw [bzT, decide_eq_false c, Bool.false_and, Bool.or_false]
set_option maxHeartbeats 4000000 in
set_option maxRecDepth 100000 in
theorem r_settle (l : Launch) (q : ev_T) {k j : Nat} {a b : Int32} {bz : Bool} {g : mu_T} (hS : Shp g) (hk : k < 18) (hj : j < 400) (hw : gI g 1003 44 = nI (j + 1)) (h1 : gI g 1020 j = nI (oc k)) (h2 : gI g 1021 j = a) (hz : gI g 1003 42 = if bz = true then 1 else 0) : Ctr l q M_Rf_settle 1 [.ref 1003, .int b] (0, 0, g) (fun v w => v = some (.int (ofT k a b)) ∧ rs g w.2.2 [42, 44] [] ∧ gI w.2.2 1003 44 = nI j ∧ gI w.2.2 1003 42 = if (bz || bzT k b) = true then 1 else 0) := by

  refine Ctr.mk (lb := [some (.ref 1003), some (.int b)]) (by decide +kernel) (Nat.le_of_ble_eq_true rfl) rfl rfl ?_
  intro pp ee ss mm aa bb mt cd X hrt hlk hnm
  refine v_aload_n X (dk D_Rf_settle 0 rfl) rfl ?_
  refine v_dup X (dk D_Rf_settle 1 rfl) rfl ?_
  refine v_getI X (dk D_Rf_settle 2 rfl) F_Rf_353 rfl rfl (hS.lt (by decide)) ?_
  rw [hw]
  refine v_iconst (v := 1) X (dk D_Rf_settle 3 rfl) (by decide) ?_
  refine v_isub X (dk D_Rf_settle 4 rfl) ?_
  rw [show nI (j + 1) - 1 = nI j from pk_sub (a := j + 1) (b := 1) (by omega)]
  refine v_putI X (dk D_Rf_settle 5 rfl) F_Rf_353 CK_Rf rfl rfl (hS.lt (by decide)) rfl rfl ?_
  refine v_aload_n X (dk D_Rf_settle 6 rfl) rfl ?_
  refine v_aload_n X (dk D_Rf_settle 7 rfl) rfl ?_
  refine v_getF X (dk D_Rf_settle 8 rfl) F_Rf_62 rfl rfl (hS.lt (by decide)) (hS.2 1003 45) ?_
  refine v_aload_n X (dk D_Rf_settle 9 rfl) rfl ?_
  refine v_getI X (dk D_Rf_settle 10 rfl) F_Rf_353 rfl rfl (hS.lt (by decide)) ?_
  rw [gI_eq]
  refine v_iald X (dk D_Rf_settle 11 rfl) rfl (hS.lt (by decide)) (vp_in_nI (show j < 400 by omega) (by decide)) ?_
  rw [nI_clamp (by omega), gI_na (by decide), h1]
  refine v_aload_n X (dk D_Rf_settle 12 rfl) rfl ?_
  refine v_getF X (dk D_Rf_settle 13 rfl) F_Rf_65 rfl rfl (hS.lt (by decide)) (hS.2 1003 46) ?_
  refine v_aload_n X (dk D_Rf_settle 14 rfl) rfl ?_
  refine v_getI X (dk D_Rf_settle 15 rfl) F_Rf_353 rfl rfl (hS.lt (by decide)) ?_
  rw [gI_eq]
  refine v_iald X (dk D_Rf_settle 16 rfl) rfl (hS.lt (by decide)) (vp_in_nI (show j < 400 by omega) (by decide)) ?_
  rw [nI_clamp (by omega), gI_na (by decide), h2]
  refine v_iload_n X (dk D_Rf_settle 17 rfl) rfl ?_
  refine v_invV (As := [.int (nI (oc k)), .int a, .int b]) (st := []) X (r_apply l q (k := k) (a := a) (b := b) (bz := bz) (g := (xI g 1003 44 (nI j))) (((rs.rf g [44] []).fI (by decide)).S hS) hk ((gI_nk (by decide)).trans hz)) (dk D_Rf_settle 18 rfl) G_Rf_359 K_Rf_apply V_Rf_apply rfl rfl (hS.lt (by decide)) rfl rfl (Nat.le_of_ble_eq_true rfl) (Nat.le_of_ble_eq_true rfl) (Nat.le_of_ble_eq_true rfl) (Nat.le_of_ble_eq_true rfl) (Nat.le_of_ble_eq_true rfl) ?_
  rintro v w1 ⟨rfl, hw1⟩
  show Vv _ _ _ _ _ _ _ _ _ _ _ _ _ _ _ [.int (ofT k a b)] (0, 0, w1.2.2)
  exact v_iret X hlk hrt (dk D_Rf_settle 19 rfl) ⟨rfl, stl_mem rfl hz hw1⟩
