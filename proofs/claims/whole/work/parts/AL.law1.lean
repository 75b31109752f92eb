/-! the law: the class's memory and the reference's side by side -/
def LI (g : mu_T) (T O : List Int32) : Prop := MI g T O ∧ RO g T O ∧ gI g 0 9 = gI g 1003 3 ∧ gI g 7 5 = gI g 1003 4 ∧ gI g 25 1 = gI g 1003 28 ∧ gI g 25 2 = gI g 1003 29
theorem MI_sm {g w : mu_T} {T O : List Int32} {U : List Nat} (h : MI g T O) (z : sm g w U) (hU : ∀ a, a < 1003 → a ∉ U) : MI w T O := by
  obtain ⟨hS, hDR, hMR, hT0, ⟨o3, hB3⟩, ⟨F0, hR0⟩, ⟨qa, oo, hO⟩, ⟨qb, oc, hQ⟩, ⟨tx, ot, hX⟩, ⟨hx, oh, hH⟩⟩ := h
  exact ⟨hS.sm z, hDR.sm z (hU _ (by decide)), hMR.sm z (hU _ (by decide)), hT0.sm z (hU _ (by decide)) (hU _ (by decide)), ⟨o3, hB3.sm z (hU _ (by decide)) (hU _ (by decide))⟩, ⟨F0, hR0.sm z (hU _ (by decide)) (hU _ (by decide))⟩, ⟨qa, oo, hO.sm z (hU _ (by decide)) (hU _ (by decide))⟩, ⟨qb, oc, hQ.sm z (hU _ (by decide)) (hU _ (by decide))⟩, ⟨tx, ot, hX.sm z (hU _ (by decide)) (hU _ (by decide))⟩, ⟨hx, oh, hH.sm z (hU _ (by decide)) (hU _ (by decide))⟩⟩
theorem RO_sm {g w : mu_T} {T O : List Int32} {U : List Nat} (h : RO g T O) (z : sm g w U) (hU : ∀ a, 1003 ≤ a → a ∉ U) : RO w T O :=
  ⟨h.1.sm z, (z.I (hU _ (by decide)) _).trans h.2.1, fun j hj => (z.I (hU _ (by decide)) _).trans (h.2.2.1 j hj), h.2.2.2.1, (z.I (hU _ (by decide)) _).trans h.2.2.2.2.1, fun j hj => (z.I (hU _ (by decide)) _).trans (h.2.2.2.2.2.1 j hj), h.2.2.2.2.2.2⟩
/-- the class's call, then the reference's: the same answer, and both stay side by side -/
def PRv (l : Launch) (q : ev_T) (M1 M2 : mt_T) (A : List Value) (g : mu_T) (r : Value) : Prop := ∃ (d1 : Nat) (P : mu_T → Prop), d1 ≤ 200 ∧ Ctr l q M1 d1 (.ref 0 :: A) (0, 0, g) (fun v w => v = some r ∧ P w.2.2) ∧ ∀ w, P w → gN w = 1022 ∧ ∃ d2, d2 ≤ 200 ∧ Ctr l q M2 d2 (.ref 1003 :: A) (0, 0, w) (fun v w2 => v = some r ∧ ∃ T O, LI w2.2.2 T O)
def LW : List Nat := 1003 :: [1005, 1006, 1007, 1008, 1009, 1010, 1011, 1012, 1013, 1014, 1015, 1016, 1017, 1018, 1019, 1020, 1021]
theorem LW_mem {a : Nat} (h : a < 1003) : a ∉ LW := by
  intro z
  have hh : ∀ a ∈ LW, 1003 ≤ a := by decide
  have := hh a z
  omega
theorem LI_text {g w w2 : mu_T} {T T2 O : List Int32} (hL : LI g T O) (z1 : sm g w [1, 2]) (z2 : rs w w2 [0] [1004]) (h1 : MI w T2 O) (h2 : RO w2 T2 O) : LI w2 T2 O := by
  have hd : ∀ a, a < 1003 → a ∉ 1003 :: [1004] := fun a ha z => by simp at z; omega
  have e1 : ∀ a k, a < 1003 → a ≠ 1 → a ≠ 2 → gI w2 a k = gI g a k := fun a k ha n1 n2 => (z2.1.1.I (hd a ha) k).trans (z1.I (by simp; omega) k)
  have e2 : ∀ k, k ≠ 0 → gI w2 1003 k = gI g 1003 k := fun k hk => (z2.2 k (by simp; exact hk)).trans (z1.I (by decide) k)
  refine ⟨MI_sm h1 z2.1.1 hd, h2, ?_, ?_, ?_, ?_⟩
  · rw [e1 0 9 (by decide) (by decide) (by decide), e2 3 (by decide)]; exact hL.2.2.1
  · rw [e1 7 5 (by decide) (by decide) (by decide), e2 4 (by decide)]; exact hL.2.2.2.1
  · rw [e1 25 1 (by decide) (by decide) (by decide), e2 28 (by decide)]; exact hL.2.2.2.2.1
  · rw [e1 25 2 (by decide) (by decide) (by decide), e2 29 (by decide)]; exact hL.2.2.2.2.2
theorem l12 : ∀ a, 1003 ≤ a → a ∉ [1, 2] := fun a ha z => by simp at z; omega
variable {g : mu_T} {T O : List Int32}
theorem LI.N (h : LI g T O) : gN g = 1022 := h.1.1.1
/-- a call that changes nothing -/
theorem PR_same {l : Launch} {q : ev_T} {M1 M2 : mt_T} {A : List Value} {r : Value} {d1 d2 : Nat} (hL : LI g T O) (h1 : d1 ≤ 200) (h2 : d2 ≤ 200) (k1 : Ctr l q M1 d1 (.ref 0 :: A) (0, 0, g) (fun v w => v = some r ∧ w.2.2 = g)) (k2 : Ctr l q M2 d2 (.ref 1003 :: A) (0, 0, g) (fun v w => v = some r ∧ w.2.2 = g)) : PRv l q M1 M2 A g r :=
  ⟨d1, fun w => w = g, h1, k1, fun w hw => by subst hw; exact ⟨hL.N, d2, h2, k2.weak fun v w2 hh => ⟨hh.1, T, O, by rw [hh.2]; exact hL⟩⟩⟩
theorem p_feed (l : Launch) (q : ev_T) (hL : LI g T O) (x : Int64) (y : Int32) : ∃ r, PRv l q M_Mi_feed M_Rf_feed [.long x, .int y] g (.int r) := by
  by_cases hy : ¬ y < 1 ∧ y ≤ 8
  · obtain ⟨n, hn, rfl⟩ := nI_of2 (M := 8) (n := 8) (by decide) (fun z => hy.1 (Int32.lt_trans z (by decide))) hy.2
    have h1 : 1 ≤ n := nI_ge1 hy.1
    refine ⟨_, 1, fun w => sm g w [1, 2] ∧ MI w (if T.length + n ≤ 32768 then T ++ fdL x n else T) O, by decide, k_feed l q hL.1 h1 hn, fun w hw => ⟨hw.2.1.1, 0, by decide, (r_feed l q (RO_sm hL.2.1 hw.1 l12) h1 hn).weak fun v w2 hh => ⟨hh.1, _, O, LI_text hL hw.1 hh.2.1 hw.2 hh.2.2⟩⟩⟩
  · exact ⟨-1, PR_same hL (by decide) (by decide) (k_feed0 l q hy) (r_feed0 l q hy)⟩
theorem p_again (l : Launch) (q : ev_T) (hL : LI g T O) (x y : Int32) : ∃ r, PRv l q M_Mi_again M_Rf_again [.int x, .int y] g (.int r) := by
  have hTl : T.length ≤ 32768 := hL.2.1.2.2.2.1
  by_cases hy : ¬ y < 1 ∧ ¬ x < 0 ∧ ¬ nI T.length < y ∧ x ≤ nI T.length - y
  · obtain ⟨a1, a2, a3, a4⟩ := hy
    obtain ⟨n, hn, rfl⟩ := nI_of2 (M := nI T.length) (n := T.length) (nI_toI (by omega)) (fun z => a1 (Int32.lt_trans z (by decide))) (Int32.not_lt.mp a3)
    have h1 : 1 ≤ n := nI_ge1 a1
    rw [show nI T.length - nI n = nI (T.length - n) from pk_sub hn] at a4
    obtain ⟨fm, hf, rfl⟩ := nI_of2 (M := nI (T.length - n)) (n := T.length - n) (nI_toI (by omega)) a2 a4
    have hfn : fm + n ≤ T.length := by omega
    refine ⟨_, 2, fun w => sm g w [1, 2] ∧ MI w (if T.length + n ≤ 32768 then T ++ (T.drop fm).take n else T) O, by decide, k_again l q hL.1 h1 hfn, fun w hw => ⟨hw.2.1.1, 0, by decide, (r_again l q (RO_sm hL.2.1 hw.1 l12) h1 hfn).weak fun v w2 hh => ⟨hh.1, _, O, LI_text hL hw.1 hh.2.1 hw.2 hh.2.2⟩⟩⟩
  · exact ⟨-1, PR_same hL (by decide) (by decide) (k_again0 l q hL.1 hy) (r_again0 l q hL.2.1 hy)⟩
theorem p_clear (l : Launch) (q : ev_T) (hL : LI g T O) : ∃ r, PRv l q M_Mi_clear M_Rf_clear [] g (.int r) :=
  ⟨_, 1, fun w => sm g w [1, 2] ∧ MI w [] O, by decide, k_clear l q hL.1, fun w hw => ⟨hw.2.1.1, 0, by decide, (r_clear l q (RO_sm hL.2.1 hw.1 l12)).weak fun v w2 hh => ⟨hh.1, [], O, LI_text hL hw.1 hh.2.1 hw.2 hh.2.2⟩⟩⟩
theorem p_run (l : Launch) (q : ev_T) (hL : LI g T O) (x : Int32) : ∃ r, PRv l q M_Mi_run M_Rf_run [.int x] g (.int r) := by
  by_cases hx : ¬ x < 1 ∧ x ≤ 400000
  · obtain ⟨fu, hf2, rfl⟩ := nI_of2 (M := 400000) (n := 400000) (by decide) (fun z => hx.1 (Int32.lt_trans z (by decide))) hx.2
    have hf1 : 1 ≤ fu := nI_ge1 hx.1
    have hU : ∀ a, 1003 ≤ a → a ∉ UA := fun a ha z => by have := UA_mem.mp z; omega
    refine ⟨_, 10, fun w => sm g w UA ∧ MI w T (rnO T fu) ∧ gI w 0 9 = rnE T fu ∧ gI w 7 5 = nI (fu - (rnX T fu).2.1.1.2.2.1) ∧ gI w 25 1 = nI (rnX T fu).2.1.2.2.2.1.2.1 ∧ gI w 25 2 = nI (rnX T fu).2.1.2.2.2.1.2.2, by decide, k_run l q hL.1 hf1 hf2, fun w hw => ⟨hw.2.1.1.1, 168, by decide, (r_run l q (RO_sm hL.2.1 hw.1 hU) hf1 hf2).weak fun v w2 hh => ⟨hh.1, T, rnO T fu, ?_⟩⟩⟩
    obtain ⟨hv, b1, b2, b3, b4, b5, b6⟩ := hh
    obtain ⟨a1, a2, a3, a4, a5, a6⟩ := hw
    have ek : ∀ a k, a < 1003 → gI w2.2.2 a k = gI w a k := fun a k ha => b1.I (LW_mem ha) k
    exact ⟨MI_sm a2 b1 (fun a ha => LW_mem ha), b2, (ek 0 9 (by decide)).trans (a3.trans b3.symm), (ek 7 5 (by decide)).trans (a4.trans b4.symm), (ek 25 1 (by decide)).trans (a5.trans b5.symm), (ek 25 2 (by decide)).trans (a6.trans b6.symm)⟩
  · exact ⟨-1, PR_same hL (by decide) (by decide) (k_run0 l q hx) (r_run0 l q hx)⟩
theorem p_told (l : Launch) (q : ev_T) (hL : LI g T O) (x : Int32) : ∃ r, PRv l q M_Mi_told M_Rf_told [.int x] g (.int r) := by
  refine ⟨_, PR_same hL (d1 := 0) (d2 := 0) (by decide) (by decide) (k_told l q hL.1.1) ?_⟩
  rw [hL.2.2.1, hL.2.2.2.1, hL.2.2.2.2.1, hL.2.2.2.2.2]
  exact r_told l q hL.1.1
theorem p_size (l : Launch) (q : ev_T) (hL : LI g T O) : ∃ r, PRv l q M_Mi_size M_Rf_size [] g (.int r) :=
  ⟨_, PR_same hL (d1 := 0) (d2 := 0) (by decide) (by decide) (k_size l q hL.1) (r_size l q hL.2.1)⟩
theorem p_word (l : Launch) (q : ev_T) (hL : LI g T O) (x : Int32) : ∃ r, PRv l q M_Mi_word M_Rf_word [.int x] g (.long r) := by
  have hOl : O.length ≤ 32768 := hL.2.1.2.2.2.2.2.2
  by_cases hx : ¬ x < 0 ∧ x ≤ 4096
  · obtain ⟨j, hj, rfl⟩ := nI_of2 (M := 4096) (n := 4096) (by decide) hx.1 hx.2
    by_cases hj2 : j < 4096
    · exact ⟨_, PR_same hL (by decide) (by decide) (k_word l q hL.1 hj) (r_word l q hL.2.1 hj2)⟩
    · have e : j = 4096 := by omega
      subst e
      have k := k_word l q hL.1 hj
      rw [wdC_0 (by omega) (by decide) 8 (by decide)] at k
      exact ⟨0, PR_same hL (by decide) (by decide) k (r_word0 l q (by decide))⟩
  · exact ⟨0, PR_same hL (by decide) (by decide) (k_word0 l q hx) (r_word0 l q (fun z => hx ⟨z.1, Int32.le_of_lt z.2⟩))⟩
/-- the two fresh memories -/
theorem LI_start {w : mu_T} (hz : ∀ j, 1022 ≤ j → zr w j) (hN : gN w = 1022) (hf : ∀ i, i < 1022 → fz w i) : LI w [] [] := by
  have hS : Shp w := ⟨hN, fun a k => by
    by_cases e : a < 1022
    · exact (hf a e k).2.2
    · rw [fR0_1022 a k (by omega)]; exact (hz a (by omega) k).2.2⟩
  have z0 : ∀ a k, a < 1022 → iI0 a k = 0 → gI w a k = 0 := fun a k ha h0 => (hf a ha k).1.trans h0
  have rb : ∀ b r n, isB w b r n → b < 1022 → iI0 b 1 = 0 → iI0 b 2 = 0 → RB w b r n [] false := fun b r n hB hb h1 h2 => ⟨hB, Nat.zero_le _, z0 b 1 hb h1, z0 b 2 hb h2, fun j hj => absurd hj (Nat.not_lt_zero _)⟩
  have ib : ∀ b r n, kdT b = .inl 1 → b < 1022 → fR0 b 0 = some r → kdT r = .inr (1, n) → r < 1022 → n < 2147483648 → isB w b r n := fun b r n h1 h2 h3 h4 h5 h6 => ⟨h1, by rw [hN]; exact h2, (hS.2 b 0).trans h3, h4, by rw [hN]; exact h5, h6⟩
  have rb2 : ∀ b r n, kdT b = .inl 1 → b < 1022 → fR0 b 0 = some r → kdT r = .inr (1, n) → r < 1022 → n < 2147483648 → iI0 b 1 = 0 → iI0 b 2 = 0 → RB w b r n [] false := fun b r n h1 h2 h3 h4 h5 h6 h7 h8 => rb b r n (ib b r n h1 h2 h3 h4 h5 h6) h2 h7 h8
  refine ⟨⟨hS, fun i hi => ?_, fun i hi => ?_, rb2 1 2 32768 rfl (by decide) rfl rfl (by decide) (by decide) (by decide) (by decide), ⟨false, rb2 3 4 32768 rfl (by decide) rfl rfl (by decide) (by decide) (by decide) (by decide)⟩, ⟨[], [], false, rb2 5 6 32768 rfl (by decide) rfl rfl (by decide) (by decide) (by decide) (by decide), Or.inl ⟨rfl, rfl⟩, fun x hx => absurd hx List.not_mem_nil⟩, ⟨[], false, rb2 8 9 4 rfl (by decide) rfl rfl (by decide) (by decide) (by decide) (by decide)⟩, ⟨[], false, rb2 10 11 4 rfl (by decide) rfl rfl (by decide) (by decide) (by decide) (by decide)⟩, ⟨[], false, rb2 12 13 32768 rfl (by decide) rfl rfl (by decide) (by decide) (by decide) (by decide)⟩, ⟨[], false, rb2 18 19 16384 rfl (by decide) rfl rfl (by decide) (by decide) (by decide) (by decide)⟩⟩, ⟨hS, z0 1003 0 (by decide) (by decide), fun j hj => absurd hj (Nat.not_lt_zero _), Nat.zero_le _, z0 1003 6 (by decide) (by decide), fun j hj => absurd hj (Nat.not_lt_zero _), Nat.zero_le _⟩, ?_, ?_, ?_, ?_⟩
  · rw [(hf 986 (by decide) i).2.1, iR0, if_neg (fun z => absurd z.1 (by decide)), if_neg (fun z => absurd z.1 (by decide)), if_pos ⟨rfl, hi⟩]
  · rw [(hf 30 (by decide) i).2.1, iR0, if_neg (fun z => absurd z.1 (by decide)), if_pos ⟨rfl, hi⟩]
  · rw [z0 0 9 (by decide) (by decide), z0 1003 3 (by decide) (by decide)]
  · rw [z0 7 5 (by decide) (by decide), z0 1003 4 (by decide) (by decide)]
  · rw [z0 25 1 (by decide) (by decide), z0 1003 28 (by decide) (by decide)]
  · rw [z0 25 2 (by decide) (by decide), z0 1003 29 (by decide) (by decide)]
