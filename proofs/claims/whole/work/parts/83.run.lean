/-! a run -/
theorem evX_32 (u : List Int32) : ¬ (evX u).1 = 32 := by
  rw [evX]
  split
  · exact (by decide : ¬ (38 : Int32) = 32)
  · rw [evF]
    split
    · exact (by decide : ¬ (38 : Int32) = 32)
    · split
      · split
        · exact (by decide : ¬ (39 : Int32) = 32)
        · exact (by decide : ¬ (0 : Int32) = 32)
      · exact (by decide : ¬ (38 : Int32) = 32)
theorem drL_32 : ∀ (d : Nat) (I : Ip), ¬ (drL d I).1 = 32
  | 0, _ => (by decide : ¬ (0 : Int32) = 32)
  | d + 1, I => by
    rw [drL]
    split
    · exact (by decide : ¬ (0 : Int32) = 32)
    · split
      · exact (by decide : ¬ (31 : Int32) = 32)
      · split
        · exact (by decide : ¬ (0 : Int32) = 32)
        · exact drL_32 d _
theorem udL_32 (cur : Int32) : ∀ (as : List (List Int32)) (D : Nat → List Int32), ¬ (udL cur as D).1 = 32
  | [], _ => (by decide : ¬ (0 : Int32) = 32)
  | a :: as, D => by
    rw [udL]
    split
    · exact (by decide : ¬ (36 : Int32) = 32)
    · exact udL_32 cur as _
theorem udX_32 (cur : Int32) (as : List (List Int32)) (D : Nat → List Int32) : ¬ (udX cur as D).1 = 32 := by
  rw [udX]
  split
  · exact (by decide : ¬ (0 : Int32) = 32)
  · exact udL_32 cur as D
theorem if_32 {c : Prop} [Decidable c] {a b : Int32} (ha : ¬ a = 32) (hb : ¬ b = 32) : ¬ (if c then a else b) = 32 := by
  split
  · exact ha
  · exact hb
theorem bI_32 {j : Nat} {S : Mst} {f : Fr} (hj : j < 17) : ¬ (bI j S f).1 = 32 := by
  have hc : j = 0 ∨ j = 1 ∨ j = 2 ∨ j = 3 ∨ j = 4 ∨ j = 5 ∨ j = 6 ∨ j = 7 ∨ j = 8 ∨ j = 9 ∨ j = 10 ∨ j = 11 ∨ j = 12 ∨ j = 13 ∨ j = 14 ∨ j = 15 ∨ j = 16 := by omega
  have h0 : ¬ (0 : Int32) = 32 := by decide
  have h36 : ¬ (36 : Int32) = 32 := by decide
  have hn : ∀ a : List Int32, ¬ (match nmX a with | none => (36 : Int32) | some _ => 0) = 32 := fun a => by
    cases nmX a
    · exact h36
    · exact h0
  have hm : ∀ a : List Int32, ¬ (match nmX a with | none => (36 : Int32) | some v => if v < 10 then 0 else 36) = 32 := fun a => by
    cases nmX a
    · exact h36
    · exact if_32 h0 h36
  rcases hc with rfl | rfl | rfl | rfl | rfl | rfl | rfl | rfl | rfl | rfl | rfl | rfl | rfl | rfl | rfl | rfl | rfl
  · exact if_32 (if_32 h0 (by decide)) (by decide)
  · exact if_32 (if_32 h0 (by decide)) (by decide)
  · exact h0
  · exact h0
  · exact h0
  · exact h0
  · exact evX_32 _
  · show ¬ (match nmX (f.2.1.getD 0 []) with | none => (36 : Int32) | some _ => 0) = 32
    cases nmX (f.2.1.getD 0 [])
    · exact h36
    · exact h0
  · show ¬ (match nmX (f.2.1.getD 0 []) with | none => (36 : Int32) | some _ => 0) = 32
    cases nmX (f.2.1.getD 0 [])
    · exact h36
    · exact h0
  · exact h0
  · exact h0
  · exact if_32 h0 h36
  · exact h0
  · exact drL_32 _ _
  · show ¬ (match nmX (f.2.1.getD 0 []) with | none => (36 : Int32) | some v => if v < 10 then 0 else 36) = 32
    cases nmX (f.2.1.getD 0 [])
    · exact h36
    · exact if_32 h0 h36
  · exact udX_32 _ _ _
  · exact if_32 h0 (by decide)
theorem fnE_32 {r : List Fr} {e : Int32} {S : Mst} {F : List Int32} (h : ¬ e = 32) : ¬ (fnE r e S F).1 = 32 := by
  rw [fnE]
  split
  · split
    · exact (by decide : ¬ (0 : Int32) = 32)
    · exact (by decide : ¬ (40 : Int32) = 32)
  · exact h
theorem fnX_32 {S : Mst} (hok : OKP S.2.2.2.1.1) : ¬ (fnX S).1 = 32 := by
  have h0 : ¬ (0 : Int32) = 32 := by decide
  rw [fnX]
  split
  · cases hfs : S.2.2.1.1 with
    | nil => exact h0
    | cons f r =>
      show ¬ (fnC f r S).1 = 32
      rw [fnC]
      cases hP : S.2.2.2.1.1 f.1 with
      | nil => exact fnE_32 h0
      | cons e L =>
        obtain ⟨c, t⟩ := e
        cases c with
        | none => exact fnE_32 h0
        | some c =>
          obtain ⟨j, hj, rfl⟩ := hok f.1 (some c, t) (by rw [hP]; simp) c rfl
          show ¬ (fnE r (bI (1048576 + j - 1048576) S f).1 _ _).1 = 32
          rw [Nat.add_sub_cancel_left]
          exact fnE_32 (bI_32 hj)
  · exact h0
theorem hld_32 {tk : List Int32} {f : Fr} {r : List Fr} {S : Mst} : ¬ (hld tk f r S).1 = 32 := by
  rw [hld]
  split
  · exact (by decide : ¬ (0 : Int32) = 32)
  · exact (by decide : ¬ (40 : Int32) = 32)
theorem usT_32 {kd : Int32} {tk : List Int32} {S : Mst} : ¬ (usT kd tk S).1 = 32 := by
  rw [usT]
  split
  · rw [opC]
    repeat' split
    all_goals first | exact (by decide : ¬ (34 : Int32) = 32) | exact (by decide : ¬ (40 : Int32) = 32) | exact (by decide : ¬ (0 : Int32) = 32) | exact (by decide : ¬ (31 : Int32) = 32)
  · split
    · exact if_32 (by decide) (by decide)
    · rw [uiA]
      repeat' split
      all_goals first | exact hld_32 | exact (by decide : ¬ (40 : Int32) = 32) | exact (by decide : ¬ (0 : Int32) = 32)
/-- all of a run: the error; the state; the line of the last token -/
def rnX (T : List Int32) (fu : Nat) : Int32 × Mst × Int32 := if ¬ (rdT [96] [39] (T, T.length, fu, 0)).2.1 = 0 then ((rdT [96] [39] (T, T.length, fu, 0)).2.1, sI (S0 T fu) (rdT [96] [39] (T, T.length, fu, 0)).2.2.1, nI (0 + 1)) else rnL 400000 (rdT [96] [39] (T, T.length, fu, 0)).1 (rdT [96] [39] (T, T.length, fu, 0)).2.2.2 (sI (S0 T fu) (rdT [96] [39] (T, T.length, fu, 0)).2.2.1) (nI (0 + 1))
/-- the answer of a run -/
def rnA (T : List Int32) (fu : Nat) : Int32 := if (rnX T fu).1 = 0 ∧ ¬ (rnX T fu).2.1.2.2.1.1 = [] then 33 else (rnX T fu).1
def rnE (T : List Int32) (fu : Nat) : Int32 := if rnA T fu = 0 then 0 else if rnA T fu = 32 then (rnX T fu).2.2 else nI ((rnX T fu).2.1.1.2.2.2 + 1)
def rnO (T : List Int32) (fu : Nat) : List Int32 := if rnA T fu = 0 then catX (rnX T fu).2.1.2.2.2.2.2 10 else []
def UA : List Nat := 0 :: 3 :: 4 :: RN
theorem UA_mem {a : Nat} : a ∈ UA ↔ a = 0 ∨ a = 3 ∨ a = 4 ∨ (5 ≤ a ∧ a < 1003) := by
  rw [UA, List.mem_cons, List.mem_cons, List.mem_cons, RN_mem]
theorem UR_UA : ∀ a ∈ UR, a ∈ UA := fun a h => UA_mem.mpr (by have := UR_mem.mp h; omega)
set_option maxHeartbeats 4000000 in
set_option maxRecDepth 100000 in
theorem k_run (l : Launch) (q : ev_T) {T O : List Int32} {fu : Nat} {g : mu_T} (hM : MI g T O) (hf1 : 1 ≤ fu) (hf2 : fu ≤ 400000) : Ctr l q M_Mi_run 10 [.ref 0, .int (nI fu)] (0, 0, g) (fun v w => v = some (.int (rnA T fu)) ∧ sm g w.2.2 UA ∧ MI w.2.2 T (rnO T fu) ∧ gI w.2.2 0 9 = rnE T fu ∧ gI w.2.2 7 5 = nI (fu - (rnX T fu).2.1.1.2.2.1) ∧ gI w.2.2 25 1 = nI (rnX T fu).2.1.2.2.2.1.2.1 ∧ gI w.2.2 25 2 = nI (rnX T fu).2.1.2.2.2.1.2.2) := by
  have hS := hM.1
  have hT := hM.2.2.2.1
  refine Ctr.mk (lb := [some (.ref 0), some (.int (nI fu)), none, none]) (by decide +kernel) (Nat.le_of_ble_eq_true rfl) rfl rfl ?_
  intro pp ee ss mm aa bb mt cd X hrt hlk hnm
  have e107 : ∀ (u : mu_T) (S : Mst) (e tl e2 : Int32), MW u fu S → RB u 3 4 32768 [] false → sm g u UR → (e = 32 → gI u 7 4 = tl) → (rnX T fu) = (e, S, tl) → e2 = rnA T fu → Vv pp l ee (rmT 10 0 0) ss mm aa bb mt cd 4 q (MQ bb (Qw q (fun v w => v = some (.int (rnA T fu)) ∧ sm g w.2.2 UA ∧ MI w.2.2 T (rnO T fu) ∧ gI w.2.2 0 9 = rnE T fu ∧ gI w.2.2 7 5 = nI (fu - (rnX T fu).2.1.1.2.2.1) ∧ gI w.2.2 25 1 = nI (rnX T fu).2.1.2.2.2.1.2.1 ∧ gI w.2.2 25 2 = nI (rnX T fu).2.1.2.2.2.1.2.2)) aa ss 0 0 (fun a => q.1 ≤ a)) 107 [some (.ref 0), some (.int (nI fu)), some (.int e2), none] [] (0, 0, u) := by
    intro u S e tl e2 hWu hBu zu h32 hrx he2
    have hSu := hWu.1
    have fin : ∀ w : mu_T, sm u w [0, 3, 4] → gI w 0 9 = (if e2 = 0 then 0 else if e2 = 32 then gI u 7 4 else nI (S.1.2.2.2 + 1)) → RB w 3 4 32768 (if e2 = 0 then catX S.2.2.2.2.2 10 else []) false → some (Value.int e2) = some (Value.int (rnA T fu)) ∧ sm g w UA ∧ MI w T (rnO T fu) ∧ gI w 0 9 = rnE T fu ∧ gI w 7 5 = nI (fu - (rnX T fu).2.1.1.2.2.1) ∧ gI w 25 1 = nI (rnX T fu).2.1.2.2.2.1.2.1 ∧ gI w 25 2 = nI (rnX T fu).2.1.2.2.2.1.2.2 := by
      intro w a1 a2 a3
      obtain ⟨m1, m2, m3, m4, ⟨o5, m5⟩, ⟨o6, m6⟩, m7, m8, m9, ⟨F, m10⟩, ⟨xs, o11, m11⟩⟩ := hWu
      have hI5 : gI u 7 5 = nI (fu - S.1.2.2.1) := by obtain ⟨x1, x2, x3, x4, x5, x6, x7, x8, x9, x10, x11, x12, x13, x14, x15⟩ := m4; exact x15.1
      obtain ⟨bk, sp, N, T9, B, n9, b9, hM, -⟩ := m8
      have hrS : (rnX T fu).2.1 = S := by rw [hrx]
      refine ⟨by rw [he2], (zu.mono UR_UA).tr a1 (U := UA) (fun _ h => h) (fun a h => UA_mem.mpr (by simp at h; omega)), ⟨m1.sm a1, m2.sm a1 (by decide), m3.sm a1 (by decide), ?_, ⟨false, ?_⟩, ⟨F, m10.sm a1 (by decide) (by decide)⟩, ⟨_, o5, m5.sm a1 (by decide) (by decide)⟩, ⟨_, o6, m6.sm a1 (by decide) (by decide)⟩, ⟨_, o11, m11.sm a1 (by decide) (by decide)⟩, ⟨_, _, m7.1.sm a1 (by decide) (by decide)⟩⟩, ?_, ?_, ?_, ?_⟩
      · exact (hT.sm zu (by rw [UR_mem]; omega) (by rw [UR_mem]; omega)).sm a1 (by decide) (by decide)
      · rw [rnO, ← he2, hrS]; exact a3
      · rw [a2, rnE, ← he2, hrS]
        by_cases c : e2 = 0
        · rw [if_pos c, if_pos c]
        · rw [if_neg c, if_neg c]
          by_cases c2 : e2 = 32
          · rw [if_pos c2, if_pos c2]
            have he : e = 32 := by
              rw [he2, rnA, hrx] at c2
              split at c2
              · exact absurd c2 (by decide)
              · exact c2
            rw [h32 he, hrx]
          · rw [if_neg c2, if_neg c2]
      · rw [a1.I (by decide), hI5, hrS]
      · rw [a1.I (by decide), hM.1, hrS]
      · rw [a1.I (by decide), hM.2.1, hrS]
    refine v_aload_n X (dk D_Mi_run 54 rfl) rfl ?_
    refine v_iload_n X (dk D_Mi_run 55 rfl) rfl ?_
    refine v_invV (As := [.int e2]) (st := []) X (k_finish l q (e := e2) hWu hBu) (dk D_Mi_run 56 rfl) G_Mi_104 K_Mi_finish V_Mi_finish rfl rfl (hSu.lt (by decide)) rfl rfl (Nat.le_of_ble_eq_true rfl) (Nat.le_of_ble_eq_true rfl) (Nat.le_of_ble_eq_true rfl) (Nat.le_of_ble_eq_true rfl) (Nat.le_of_ble_eq_true rfl) ?_
    rintro v w ⟨rfl, a1, a2, a3⟩
    show Vv _ _ _ _ _ _ _ _ _ _ _ _ _ _ _ [] (0, 0, w.2.2)
    refine v_iload_n X (dk D_Mi_run 57 rfl) rfl ?_
    exact v_iret X hlk hrt (dk D_Mi_run 58 rfl) (fin w.2.2 a1 a2 a3)
  have e90 : ∀ (u : mu_T) (S : Mst) (e tl : Int32), MW u fu S → RB u 3 4 32768 [] false → sm g u UR → (e = 32 → gI u 7 4 = tl) → (rnX T fu) = (e, S, tl) → Vv pp l ee (rmT 10 0 0) ss mm aa bb mt cd 4 q (MQ bb (Qw q (fun v w => v = some (.int (rnA T fu)) ∧ sm g w.2.2 UA ∧ MI w.2.2 T (rnO T fu) ∧ gI w.2.2 0 9 = rnE T fu ∧ gI w.2.2 7 5 = nI (fu - (rnX T fu).2.1.1.2.2.1) ∧ gI w.2.2 25 1 = nI (rnX T fu).2.1.2.2.2.1.2.1 ∧ gI w.2.2 25 2 = nI (rnX T fu).2.1.2.2.2.1.2.2)) aa ss 0 0 (fun a => q.1 ≤ a)) 90 [some (.ref 0), some (.int (nI fu)), some (.int e), none] [] (0, 0, u) := by
    intro u S e tl hWu hBu zu h32 hrx
    have hSu := hWu.1
    refine v_iload_n X (dk D_Mi_run 46 rfl) rfl ?_
    refine v_if_ne (tgt := 107) X (dk D_Mi_run 47 rfl) (by decide) (fun c91 => ?_) (fun c91 => ?_)
    · exact e107 u S e tl e hWu hBu zu h32 hrx (by rw [rnA, hrx, if_neg (fun z => c91 z.1)])
    · refine v_aload_n X (dk D_Mi_run 48 rfl) rfl ?_
      refine v_getF X (dk D_Mi_run 49 rfl) F_Mi_37 rfl rfl (hSu.lt (by decide)) (hSu.2 0 4) ?_
      refine v_getI X (dk D_Mi_run 50 rfl) F_Mi_101 rfl rfl (hSu.lt (by decide)) ?_
      refine v_if_le (tgt := 107) X (dk D_Mi_run 51 rfl) (by decide) (fun c101 => ?_) (fun c101 => ?_)
      · exact e107 u S e tl e hWu hBu zu h32 hrx (by rw [rnA, hrx, if_neg (fun z => z.2 (show S.2.2.1.1 = [] from List.length_eq_zero_iff.mp (by rw [hWu.2.2.2.2.2.2.1.2.1] at c101; exact Decidable.byContradiction (fun y => nI_nle (by omega) (by have := hWu.2.2.2.2.2.2.1.2.2.1; omega) c101))))])
      · refine v_bipush (v := 33) X (dk D_Mi_run 52 rfl) (by decide) ?_
        refine v_istore_n (lb := [some (.ref 0), some (.int (nI fu)), some (.int 33), none]) X (dk D_Mi_run 53 rfl) (by decide) rfl ?_
        exact e107 u S e tl 33 hWu hBu zu h32 hrx (by rw [rnA, hrx, if_pos ⟨c91, fun z => c101 (by rw [hWu.2.2.2.2.2.2.1.2.1, z]; decide)⟩])
  have errH : ∀ (u : mu_T) (S : Mst) (e tl : Int32) (k : Nat), ¬ e = 0 → MW u fu S → RB u 3 4 32768 [] false → sm g u UR → (e = 32 → gI u 7 4 = tl) → (rnX T fu) = (e, S, tl) → Vv pp l ee (rmT 10 0 0) ss mm aa bb mt cd 4 q (MQ bb (Qw q (fun v w => v = some (.int (rnA T fu)) ∧ sm g w.2.2 UA ∧ MI w.2.2 T (rnO T fu) ∧ gI w.2.2 0 9 = rnE T fu ∧ gI w.2.2 7 5 = nI (fu - (rnX T fu).2.1.1.2.2.1) ∧ gI w.2.2 25 1 = nI (rnX T fu).2.1.2.2.2.1.2.1 ∧ gI w.2.2 25 2 = nI (rnX T fu).2.1.2.2.2.1.2.2)) aa ss 0 0 (fun a => q.1 ≤ a)) 28 [some (.ref 0), some (.int (nI fu)), some (.int e), some (.int (nI k))] [] (0, 0, u) := by
    intro u S e tl k he hWu hBu zu h32 hrx
    have hSu := hWu.1
    refine v_iload_n X (dk D_Mi_run 17 rfl) rfl ?_
    refine v_ldc X (dk D_Mi_run 18 rfl) C_Mi_80 ?_
    refine v_icmp_ge (tgt := 90) X (dk D_Mi_run 19 rfl) (by decide) (fun c31 => ?_) (fun c31 => ?_)
    · exact v_weak (la := [some (.ref 0), some (.int (nI fu)), some (.int e), none]) ⟨rfl, rfl, rfl, trivial⟩ (e90 u S e tl hWu hBu zu h32 hrx)
    · refine v_iload_n X (dk D_Mi_run 20 rfl) rfl ?_
      refine v_if_ne (tgt := 90) X (dk D_Mi_run 21 rfl) (by decide) (fun _ => ?_) (fun c35 => absurd c35 he)
      exact v_weak (la := [some (.ref 0), some (.int (nI fu)), some (.int e), none]) ⟨rfl, rfl, rfl, trivial⟩ (e90 u S e tl hWu hBu zu h32 hrx)
  have loop : ∀ (d k : Nat) (u : mu_T) (kd : Int32) (tk : List Int32) (S : Mst) (tl : Int32) (ov : Bool), k + d = 400000 → RI S → MW u fu S → RB u 3 4 32768 [] false → sm g u UR → RB u 12 13 32768 tk ov → gI u 7 3 = kd → (kd = 4 → tk.length = 1) → (rnX T fu) = rnL d kd tk S tl → Vv pp l ee (rmT 10 0 0) ss mm aa bb mt cd 4 q (MQ bb (Qw q (fun v w => v = some (.int (rnA T fu)) ∧ sm g w.2.2 UA ∧ MI w.2.2 T (rnO T fu) ∧ gI w.2.2 0 9 = rnE T fu ∧ gI w.2.2 7 5 = nI (fu - (rnX T fu).2.1.1.2.2.1) ∧ gI w.2.2 25 1 = nI (rnX T fu).2.1.2.2.2.1.2.1 ∧ gI w.2.2 25 2 = nI (rnX T fu).2.1.2.2.2.1.2.2)) aa ss 0 0 (fun a => q.1 ≤ a)) 28 [some (.ref 0), some (.int (nI fu)), some (.int 0), some (.int (nI k))] [] (0, 0, u) := by
    intro d
    induction d with
    | zero =>
      intro k u kd tk S tl ov hkd2 hRI hWu hBu zu hTu hkd hk4 hrx
      have hSu := hWu.1
      refine v_iload_n X (dk D_Mi_run 17 rfl) rfl ?_
      refine v_ldc X (dk D_Mi_run 18 rfl) C_Mi_80 ?_
      refine v_icmp_ge (tgt := 90) X (dk D_Mi_run 19 rfl) (by decide) (fun _ => ?_) (fun c31 => absurd (nI_le (a := 400000) (by omega) (by omega)) c31)
      exact v_weak (la := [some (.ref 0), some (.int (nI fu)), some (.int 0), none]) ⟨rfl, rfl, rfl, trivial⟩ (e90 u S 0 tl hWu hBu zu (fun h => absurd h (by decide)) hrx)
    | succ d ih =>
      intro k u kd tk S tl ov hkd2 hRI hWu hBu zu hTu hkd hk4 hrx
      have hSu := hWu.1
      have at72e : ∀ (v1 : mu_T) (e2 : Int32) (S2 : Mst), ¬ e2 = 0 → MW v1 fu S2 → RB v1 3 4 32768 [] false → sm g v1 UR → ¬ e2 = 32 → (rnX T fu) = (e2, S2, tl) → Vv pp l ee (rmT 10 0 0) ss mm aa bb mt cd 4 q (MQ bb (Qw q (fun v w => v = some (.int (rnA T fu)) ∧ sm g w.2.2 UA ∧ MI w.2.2 T (rnO T fu) ∧ gI w.2.2 0 9 = rnE T fu ∧ gI w.2.2 7 5 = nI (fu - (rnX T fu).2.1.1.2.2.1) ∧ gI w.2.2 25 1 = nI (rnX T fu).2.1.2.2.2.1.2.1 ∧ gI w.2.2 25 2 = nI (rnX T fu).2.1.2.2.2.1.2.2)) aa ss 0 0 (fun a => q.1 ≤ a)) 72 [some (.ref 0), some (.int (nI fu)), some (.int e2), some (.int (nI k))] [] (0, 0, v1) := by
        intro v1 e2 S2 he hWv hBv zv h32 hr2
        have hSv := hWv.1
        refine v_iload_n X (dk D_Mi_run 38 rfl) rfl ?_
        refine v_if_ne (tgt := 84) X (dk D_Mi_run 39 rfl) (by decide) (fun _ => ?_) (fun c73 => absurd c73 he)
        refine v_iinc (v := nI (k + 1)) (lb := [some (.ref 0), some (.int (nI fu)), some (.int e2), some (.int (nI (k + 1)))]) X (dk D_Mi_run 44 rfl) rfl (nI_1 k) (by decide) rfl ?_
        refine v_goto (tgt := 28) X (dk D_Mi_run 45 rfl) (by decide) ?_
        exact errH v1 S2 e2 tl (k + 1) he hWv hBv zv (fun h => absurd h h32) hr2
      have at72 : ∀ (v1 : mu_T) (e2 : Int32) (S2 : Mst), (fnX (usT kd tk S).2) = (e2, S2) → MW v1 fu S2 → RB v1 3 4 32768 [] false → sm g v1 UR → (usT kd tk S).1 = 0 → RJ (usT kd tk S).2 → ¬ kd = 0 → Vv pp l ee (rmT 10 0 0) ss mm aa bb mt cd 4 q (MQ bb (Qw q (fun v w => v = some (.int (rnA T fu)) ∧ sm g w.2.2 UA ∧ MI w.2.2 T (rnO T fu) ∧ gI w.2.2 0 9 = rnE T fu ∧ gI w.2.2 7 5 = nI (fu - (rnX T fu).2.1.1.2.2.1) ∧ gI w.2.2 25 1 = nI (rnX T fu).2.1.2.2.2.1.2.1 ∧ gI w.2.2 25 2 = nI (rnX T fu).2.1.2.2.2.1.2.2)) aa ss 0 0 (fun a => q.1 ≤ a)) 72 [some (.ref 0), some (.int (nI fu)), some (.int e2), some (.int (nI k))] [] (0, 0, v1) := by
        intro v1 e2 S2 hfx hWv hBv zv hu0 hRJ hk0
        have hSv := hWv.1
        obtain ⟨oo, hOv⟩ := hWv.2.2.2.2.1
        obtain ⟨oc, hQv⟩ := hWv.2.2.2.2.2.1
        obtain ⟨xt, ox, hXv⟩ := hWv.2.2.2.2.2.2.2.2.2.2
        have hx32 := fnX_32 hRJ.1
        have hRI2 := fnX_RI hRJ
        rw [hfx] at hx32 hRI2
        have hrL : (rnX T fu) = if ¬ e2 = 0 then (e2, S2, tl) else if ¬ (rdT S2.2.1.1 S2.2.1.2 S2.1).2.1 = 0 then ((rdT S2.2.1.1 S2.2.1.2 S2.1).2.1, sI S2 (rdT S2.2.1.1 S2.2.1.2 S2.1).2.2.1, nI (S2.1.2.2.2 + 1)) else rnL d (rdT S2.2.1.1 S2.2.1.2 S2.1).1 (rdT S2.2.1.1 S2.2.1.2 S2.1).2.2.2 (sI S2 (rdT S2.2.1.1 S2.2.1.2 S2.1).2.2.1) (nI (S2.1.2.2.2 + 1)) := by rw [hrx, rnL, if_neg hk0, if_neg (fun z => z hu0), hfx]
        by_cases he0 : e2 = 0
        · rw [if_neg (fun z => z he0)] at hrL
          have hRI2 : RI (sI S2 (rdT S2.2.1.1 S2.2.1.2 S2.1).2.2.1) := hRI2
          refine v_iload_n X (dk D_Mi_run 38 rfl) rfl ?_
          refine v_if_ne (tgt := 84) X (dk D_Mi_run 39 rfl) (by decide) (fun c73 => absurd he0 c73) (fun _ => ?_)
          refine v_aload_n X (dk D_Mi_run 40 rfl) rfl ?_
          refine v_getF X (dk D_Mi_run 41 rfl) F_Mi_30 rfl rfl (hSv.lt (by decide)) (hSv.2 0 3) ?_
          refine v_invV (As := []) (st := []) X (k_readToken l q hSv hWv.2.2.2.1 hXv hOv hQv) (dk D_Mi_run 42 rfl) G_Mi_84 K_In_readToken V_In_readToken rfl rfl (hSv.lt (by decide)) rfl rfl (Nat.le_of_ble_eq_true rfl) (Nat.le_of_ble_eq_true rfl) (Nat.le_of_ble_eq_true rfl) (Nat.le_of_ble_eq_true rfl) (Nat.le_of_ble_eq_true rfl) ?_
          rintro v w3 ⟨rfl, d1, d2, d3, d4, d5⟩
          have W3 : MW w3.2.2 fu (sI S2 (rdT S2.2.1.1 S2.2.1.2 S2.1).2.2.1) := (hWv.gen d1 (by decide) (by decide) (Or.inl d2) (Or.inr ⟨rfl, by decide, by decide, by decide, by decide⟩) (Or.inr ⟨rfl, by decide⟩) (Or.inr ⟨rfl, M25 [7, 12, 13] (by decide)⟩) (Or.inr ⟨rfl, by decide⟩) (Or.inr ⟨by decide, by decide⟩) (Or.inl ⟨_, _, d5⟩))
          have Z3 := zv.tr d1 (U := UR) (fun _ h => h) (fun a h => UR_mem.mpr (by simp at h; omega))
          have B3 := hBv.sm d1 (by decide) (by decide)
          show Vv _ _ _ _ _ _ _ _ _ _ _ _ _ _ _ [.int (rdT S2.2.1.1 S2.2.1.2 S2.1).2.1] (0, 0, w3.2.2)
          refine v_istore_n (lb := [some (.ref 0), some (.int (nI fu)), some (.int (rdT S2.2.1.1 S2.2.1.2 S2.1).2.1), some (.int (nI k))]) X (dk D_Mi_run 43 rfl) (by decide) rfl ?_
          refine v_iinc (v := nI (k + 1)) (lb := [some (.ref 0), some (.int (nI fu)), some (.int (rdT S2.2.1.1 S2.2.1.2 S2.1).2.1), some (.int (nI (k + 1)))]) X (dk D_Mi_run 44 rfl) rfl (nI_1 k) (by decide) rfl ?_
          refine v_goto (tgt := 28) X (dk D_Mi_run 45 rfl) (by decide) ?_
          by_cases h3 : (rdT S2.2.1.1 S2.2.1.2 S2.1).2.1 = 0
          · rw [h3]
            exact ih (k + 1) w3.2.2 _ _ (sI S2 (rdT S2.2.1.1 S2.2.1.2 S2.1).2.2.1) (nI (S2.1.2.2.2 + 1)) false (by omega) hRI2 W3 B3 Z3 d5 d3 (fun h4 => rdT_4 h4 h3) (by rw [hrL, if_neg (fun z => z h3)])
          · exact errH w3.2.2 (sI S2 (rdT S2.2.1.1 S2.2.1.2 S2.1).2.2.1) _ (nI (S2.1.2.2.2 + 1)) (k + 1) h3 W3 B3 Z3 (fun _ => d4) (by rw [hrL, if_pos h3])
        · exact at72e v1 e2 S2 he0 hWv hBv zv hx32 (by rw [hrL, if_pos he0])
      refine v_iload_n X (dk D_Mi_run 17 rfl) rfl ?_
      refine v_ldc X (dk D_Mi_run 18 rfl) C_Mi_80 ?_
      refine v_icmp_ge (tgt := 90) X (dk D_Mi_run 19 rfl) (by decide) (fun c31 => absurd c31 (nI_ge (b := 400000) (by omega) (by omega))) (fun _ => ?_)
      refine v_iload_n X (dk D_Mi_run 20 rfl) rfl ?_
      refine v_if_ne (tgt := 90) X (dk D_Mi_run 21 rfl) (by decide) (fun c35 => absurd rfl c35) (fun _ => ?_)
      refine v_aload_n X (dk D_Mi_run 22 rfl) rfl ?_
      refine v_getF X (dk D_Mi_run 23 rfl) F_Mi_30 rfl rfl (hSu.lt (by decide)) (hSu.2 0 3) ?_
      refine v_getI X (dk D_Mi_run 24 rfl) F_Mi_88 rfl rfl (hSu.lt (by decide)) ?_
      refine v_if_eq (tgt := 90) X (dk D_Mi_run 25 rfl) (by decide) (fun c45 => ?_) (fun c45 => ?_)
      · exact v_weak (la := [some (.ref 0), some (.int (nI fu)), some (.int 0), none]) ⟨rfl, rfl, rfl, trivial⟩ (e90 u S 0 tl hWu hBu zu (fun h => absurd h (by decide)) (by rw [hrx, rnL, if_pos (by rw [← hkd]; exact c45)]))
      · refine v_aload_n X (dk D_Mi_run 26 rfl) rfl ?_
        refine v_invV (As := []) (st := []) X (k_useToken l q hWu hRI.1 hRI.2.1 hRI.2.2 hTu hkd) (dk D_Mi_run 27 rfl) G_Mi_91 K_Mi_useToken V_Mi_useToken rfl rfl (hSu.lt (by decide)) rfl rfl (Nat.le_of_ble_eq_true rfl) (Nat.le_of_ble_eq_true rfl) (Nat.le_of_ble_eq_true rfl) (Nat.le_of_ble_eq_true rfl) (Nat.le_of_ble_eq_true rfl) ?_
        rintro v w1 ⟨rfl, a1, a2⟩
        have S1 := a2.1
        have Z1 := zu.tr a1 (U := UR) (fun _ h => h) (fun a h => UR_mem.mpr (by have := RN_mem.mp h; omega))
        have B1 := hBu.sm a1 (by rw [RN_mem]; omega) (by rw [RN_mem]; omega)
        show Vv _ _ _ _ _ _ _ _ _ _ _ _ _ _ _ [.int (usT kd tk S).1] (0, 0, w1.2.2)
        refine v_istore_n (lb := [some (.ref 0), some (.int (nI fu)), some (.int (usT kd tk S).1), some (.int (nI k))]) X (dk D_Mi_run 28 rfl) (by decide) rfl ?_
        refine v_iload_n X (dk D_Mi_run 29 rfl) rfl ?_
        refine v_if_ne (tgt := 72) X (dk D_Mi_run 30 rfl) (by decide) (fun c54 => ?_) (fun c54 => ?_)
        · exact at72e w1.2.2 (usT kd tk S).1 (usT kd tk S).2 c54 a2 B1 Z1 usT_32 (by rw [hrx, rnL, if_neg (show ¬ kd = 0 from fun z => c45 (by rw [hkd]; exact z)), if_pos c54])
        · have hRJ := usT_RJ hRI hk4 c54
          refine v_aload_n X (dk D_Mi_run 31 rfl) rfl ?_
          refine v_getF X (dk D_Mi_run 32 rfl) F_Mi_37 rfl rfl (S1.lt (by decide)) (S1.2 0 4) ?_
          refine v_getI X (dk D_Mi_run 33 rfl) F_Mi_94 rfl rfl (S1.lt (by decide)) ?_
          refine v_if_eq (tgt := 72) X (dk D_Mi_run 34 rfl) (by decide) (fun c64 => ?_) (fun c64 => ?_)
          · have hcm : (usT kd tk S).2.2.2.1.2 = false := by rcases (show (usT kd tk S).2.2.2.1.2 = true ∨ (usT kd tk S).2.2.2.1.2 = false by cases (usT kd tk S).2.2.2.1.2 <;> simp) with h | h; rw [a2.2.2.2.2.2.2.1.2.2.2.1, h] at c64; exact absurd c64 (by decide); exact h
            have hfx : (fnX (usT kd tk S).2) = (0, (usT kd tk S).2) := by rw [fnX, if_neg (by rw [hcm]; decide)]
            rw [show (usT kd tk S).1 = 0 from c54]
            exact at72 w1.2.2 0 (usT kd tk S).2 hfx a2 B1 Z1 c54 hRJ (show ¬ kd = 0 from fun z => c45 (by rw [hkd]; exact z))
          · have hcm : (usT kd tk S).2.2.2.1.2 = true := by rcases (show (usT kd tk S).2.2.2.1.2 = true ∨ (usT kd tk S).2.2.2.1.2 = false by cases (usT kd tk S).2.2.2.1.2 <;> simp) with h | h; exact h; rw [a2.2.2.2.2.2.2.1.2.2.2.1, h] at c64; exact absurd rfl c64
            obtain ⟨f, r, hfs, hFOr⟩ : ∃ f r, (usT kd tk S).2.2.2.1.1 = f :: r ∧ FO r := by rcases hRJ.2 with h | h; rw [hcm] at h; exact absurd h.1 (by decide); exact h.2
            have hfx : (fnX (usT kd tk S).2) = fnC f r (usT kd tk S).2 := by rw [fnX, if_pos hcm, hfs]
            refine v_aload_n X (dk D_Mi_run 35 rfl) rfl ?_
            refine v_invV (As := []) (st := []) X (k_finishCall l q a2 hfs hRJ.1) (dk D_Mi_run 36 rfl) G_Mi_98 K_Mi_finishCall V_Mi_finishCall rfl rfl (S1.lt (by decide)) rfl rfl (Nat.le_of_ble_eq_true rfl) (Nat.le_of_ble_eq_true rfl) (Nat.le_of_ble_eq_true rfl) (Nat.le_of_ble_eq_true rfl) (Nat.le_of_ble_eq_true rfl) ?_
            rintro v w2 ⟨rfl, b1, b2⟩
            show Vv _ _ _ _ _ _ _ _ _ _ _ _ _ _ _ [.int (fnC f r (usT kd tk S).2).1] (0, 0, w2.2.2)
            refine v_istore_n (lb := [some (.ref 0), some (.int (nI fu)), some (.int (fnC f r (usT kd tk S).2).1), some (.int (nI k))]) X (dk D_Mi_run 37 rfl) (by decide) rfl ?_
            exact at72 w2.2.2 (fnC f r (usT kd tk S).2).1 (fnC f r (usT kd tk S).2).2 hfx b2 (B1.sm b1 (by rw [RN_mem]; omega) (by rw [RN_mem]; omega)) (Z1.tr b1 (U := UR) (fun _ h => h) (fun a h => UR_mem.mpr (by have := RN_mem.mp h; omega))) c54 hRJ (show ¬ kd = 0 from fun z => c45 (by rw [hkd]; exact z))
  refine v_iload_n X (dk D_Mi_run 0 rfl) rfl ?_
  refine v_iconst (v := 1) X (dk D_Mi_run 1 rfl) (by decide) ?_
  refine v_icmp_lt (tgt := 11) X (dk D_Mi_run 2 rfl) (by decide) (fun c2 => absurd c2 (nI_nlt (a := fu) (b := 1) (by omega) (by omega))) (fun _ => ?_)
  refine v_iload_n X (dk D_Mi_run 3 rfl) rfl ?_
  refine v_ldc X (dk D_Mi_run 4 rfl) C_Mi_80 ?_
  refine v_icmp_le (tgt := 13) X (dk D_Mi_run 5 rfl) (by decide) (fun _ => ?_) (fun c8 => absurd (nI_le (b := 400000) (by omega) (by decide)) c8)
  refine v_aload_n X (dk D_Mi_run 8 rfl) rfl ?_
  refine v_iload_n X (dk D_Mi_run 9 rfl) rfl ?_
  refine v_invV (As := [.int (nI fu)]) (st := []) X (k_beginAnew l q hM (by omega)) (dk D_Mi_run 10 rfl) G_Mi_81 K_Mi_beginAnew V_Mi_beginAnew rfl rfl (hS.lt (by decide)) rfl rfl (Nat.le_of_ble_eq_true rfl) (Nat.le_of_ble_eq_true rfl) (Nat.le_of_ble_eq_true rfl) (Nat.le_of_ble_eq_true rfl) (Nat.le_of_ble_eq_true rfl) ?_
  rintro v w0 ⟨rfl, a1, a2, a3⟩
  have S0_ := a2.1
  obtain ⟨o5, m5⟩ := a2.2.2.2.2.1
  obtain ⟨o6, m6⟩ := a2.2.2.2.2.2.1
  obtain ⟨xt, ox, hXv⟩ := a2.2.2.2.2.2.2.2.2.2.2
  show Vv _ _ _ _ _ _ _ _ _ _ _ _ _ _ _ [] (0, 0, w0.2.2)
  refine v_aload_n X (dk D_Mi_run 11 rfl) rfl ?_
  refine v_getF X (dk D_Mi_run 12 rfl) F_Mi_30 rfl rfl (S0_.lt (by decide)) (S0_.2 0 3) ?_
  refine v_invV (As := []) (st := []) X (k_readToken l q S0_ a2.2.2.2.1 hXv m5 m6) (dk D_Mi_run 13 rfl) G_Mi_84 K_In_readToken V_In_readToken rfl rfl (S0_.lt (by decide)) rfl rfl (Nat.le_of_ble_eq_true rfl) (Nat.le_of_ble_eq_true rfl) (Nat.le_of_ble_eq_true rfl) (Nat.le_of_ble_eq_true rfl) (Nat.le_of_ble_eq_true rfl) ?_
  rintro v w3 ⟨rfl, d1, d2, d3, d4, d5⟩
  have W3 : MW w3.2.2 fu (sI (S0 T fu) (rdT [96] [39] (T, T.length, fu, 0)).2.2.1) := (a2.gen d1 (by decide) (by decide) (Or.inl d2) (Or.inr ⟨rfl, by decide, by decide, by decide, by decide⟩) (Or.inr ⟨rfl, by decide⟩) (Or.inr ⟨rfl, M25 [7, 12, 13] (by decide)⟩) (Or.inr ⟨rfl, by decide⟩) (Or.inr ⟨by decide, by decide⟩) (Or.inl ⟨_, _, d5⟩))
  have Z3 := a1.tr d1 (U := UR) (fun _ h => h) (fun a h => UR_mem.mpr (by simp at h; omega))
  have B3 := a3.sm d1 (by decide) (by decide)
  show Vv _ _ _ _ _ _ _ _ _ _ _ _ _ _ _ [.int (rdT [96] [39] (T, T.length, fu, 0)).2.1] (0, 0, w3.2.2)
  refine v_istore_n (lb := [some (.ref 0), some (.int (nI fu)), some (.int (rdT [96] [39] (T, T.length, fu, 0)).2.1), none]) X (dk D_Mi_run 14 rfl) (by decide) rfl ?_
  refine v_iconst (v := nI 0) X (dk D_Mi_run 15 rfl) (by decide) ?_
  refine v_istore_n (lb := [some (.ref 0), some (.int (nI fu)), some (.int (rdT [96] [39] (T, T.length, fu, 0)).2.1), some (.int (nI 0))]) X (dk D_Mi_run 16 rfl) (by decide) rfl ?_
  by_cases h3 : (rdT [96] [39] (T, T.length, fu, 0)).2.1 = 0
  · rw [h3]
    exact loop 400000 0 w3.2.2 (rdT [96] [39] (T, T.length, fu, 0)).1 (rdT [96] [39] (T, T.length, fu, 0)).2.2.2 (sI (S0 T fu) (rdT [96] [39] (T, T.length, fu, 0)).2.2.1) (nI (0 + 1)) false (by omega) ⟨rfl, fun f hf => absurd hf List.not_mem_nil, biP_ok 17 (by decide)⟩ W3 B3 Z3 d5 d3 (fun h4 => rdT_4 h4 h3) (by rw [rnX, if_neg (fun z => z h3)])
  · exact errH w3.2.2 (sI (S0 T fu) (rdT [96] [39] (T, T.length, fu, 0)).2.2.1) _ (nI (0 + 1)) 0 h3 W3 B3 Z3 (fun _ => d4) (by rw [rnX, if_pos h3])
set_option maxHeartbeats 4000000 in
set_option maxRecDepth 100000 in
theorem k_run0 (l : Launch) (q : ev_T) {x : Int32} {g : mu_T} (hx : ¬ (¬ x < 1 ∧ x ≤ 400000)) : Ctr l q M_Mi_run 0 [.ref 0, .int x] (0, 0, g) (fun v w => v = some (.int (-1)) ∧ w.2.2 = g) := by

  refine Ctr.mk (lb := [some (.ref 0), some (.int x), none, none]) (by decide +kernel) (Nat.le_of_ble_eq_true rfl) rfl rfl ?_
  intro pp ee ss mm aa bb mt cd X hrt hlk hnm
  refine v_iload_n X (dk D_Mi_run 0 rfl) rfl ?_
  refine v_iconst (v := 1) X (dk D_Mi_run 1 rfl) (by decide) ?_
  refine v_icmp_lt (tgt := 11) X (dk D_Mi_run 2 rfl) (by decide) (fun c2 => ?_) (fun c2 => ?_)
  · refine v_iconst (v := -1) X (dk D_Mi_run 6 rfl) (by decide) ?_
    exact v_iret X hlk hrt (dk D_Mi_run 7 rfl) ⟨rfl, rfl⟩
  · refine v_iload_n X (dk D_Mi_run 3 rfl) rfl ?_
    refine v_ldc X (dk D_Mi_run 4 rfl) C_Mi_80 ?_
    refine v_icmp_le (tgt := 13) X (dk D_Mi_run 5 rfl) (by decide) (fun c8 => ?_) (fun c8 => ?_)
    · exact absurd ⟨c2, c8⟩ hx
    · refine v_iconst (v := -1) X (dk D_Mi_run 6 rfl) (by decide) ?_
      exact v_iret X hlk hrt (dk D_Mi_run 7 rfl) ⟨rfl, rfl⟩
