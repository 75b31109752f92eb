/-! Cells.add -/
def hangM (g : mu_T) (rn h : Nat) (x y z : Int32) : mu_T := if gI g h 1 < 0 then xI (xI (xI g h 0 x) h 1 y) h 2 (gI (xI (xI g h 0 x) h 1 y) h 2 + z) else xI (xI (xI g rn (gI g h 1).toNatClampNeg x) h 1 y) h 2 (gI (xI (xI g rn (gI g h 1).toNatClampNeg x) h 1 y) h 2 + z)
theorem c_Ce_hangM (l : Launch) (q : ev_T) {c rb rn N h : Nat} {x y z : Int32} {g : mu_T} (hC : isC g c rb rn N) (hH : isH g h) (hl : gI g h 1 = -1 ∨ ∃ p, p < N ∧ gI g h 1 = nI p) : Ctr l q M_Ce_hang 0 [.ref c, .ref h, .int x, .int y, .int z] (0, 0, g) (fun v w => v = none ∧ w.2.2 = hangM g rn h x y z) := by
  have hN := hC.2.2.2.2.2.2.2.2
  rcases hl with hl | ⟨p, hp, hl⟩
  · exact (c_Ce_hang0 l q hC hH hl).weak fun v w hw => ⟨hw.1, by rw [hw.2, hangM, if_pos (by rw [hl]; decide)]⟩
  · exact (c_Ce_hang l q hC hH hl hp).weak fun v w hw => ⟨hw.1, by rw [hw.2, hangM, if_neg (by rw [hl]; exact nI_pos (by omega)), hl, nI_clamp (by omega)]⟩
theorem hangM_facts {g : mu_T} {rn h : Nat} {x y z : Int32} (hne : h ≠ rn) : sm g (hangM g rn h x y z) [rn, h] ∧ gI (hangM g rn h x y z) h 1 = y ∧ gI (hangM g rn h x y z) h 2 = gI g h 2 + z ∧ gI (hangM g rn h x y z) h 0 = (if gI g h 1 < 0 then x else gI g h 0) ∧ ∀ a, gI (hangM g rn h x y z) rn a = if ¬ gI g h 1 < 0 ∧ a = (gI g h 1).toNatClampNeg then x else gI g rn a := by
  by_cases c : gI g h 1 < 0
  · have e : hangM g rn h x y z = xI (xI (xI g h 0 x) h 1 y) h 2 (gI (xI (xI g h 0 x) h 1 y) h 2 + z) := if_pos c
    rw [e]
    refine ⟨(((sm.rf g _).xI (by simp)).xI (by simp)).xI (by simp), ?_, ?_, ?_, fun a => ?_⟩
    · rw [gI_nk (by decide), gI_eq]
    · rw [gI_eq, gI_nk (by decide), gI_nk (by decide)]
    · rw [gI_nk (by decide), gI_nk (by decide), gI_eq, if_pos c]
    · rw [gI_na (Ne.symm hne), gI_na (Ne.symm hne), gI_na (Ne.symm hne), if_neg (fun z => z.1 c)]
  · have e : hangM g rn h x y z = xI (xI (xI g rn (gI g h 1).toNatClampNeg x) h 1 y) h 2 (gI (xI (xI g rn (gI g h 1).toNatClampNeg x) h 1 y) h 2 + z) := if_neg c
    rw [e]
    refine ⟨(((sm.rf g _).xI (by simp)).xI (by simp)).xI (by simp), ?_, ?_, ?_, fun a => ?_⟩
    · rw [gI_nk (by decide), gI_eq]
    · rw [gI_eq, gI_nk (by decide), gI_na hne]
    · rw [gI_nk (by decide), gI_nk (by decide), gI_na hne, if_neg c]
    · rw [gI_na (Ne.symm hne), gI_na (Ne.symm hne)]
      by_cases ha : a = (gI g h 1).toNatClampNeg
      · rw [if_pos ⟨c, ha⟩, ha, gI_eq]
      · rw [if_neg (fun z => ha z.2), gI_nk ha]
theorem CH.last {g : mu_T} {rn h N : Nat} {ps : List Nat} (c : CH g rn h ps) (hp : ∀ p ∈ ps, p < N) : gI g h 1 = -1 ∨ ∃ p, p < N ∧ gI g h 1 = nI p := by
  rcases snoc_or ps with e | ⟨qs, p, e⟩
  · exact Or.inl (c.2.2.1 e).2
  · exact Or.inr ⟨p, hp p (by rw [e]; simp), (c.2.2.2 qs p e).1⟩
/-- one turn of the loop of Cells.add: cell p gets the byte y -/
def addM (u : mu_T) (c rb rn h p : Nat) (y : Int32) : mu_T := xI (hangM (xI (xI u rb p y) rn p (-1)) rn h (nI p) (nI p) 1) c 4 (gI (hangM (xI (xI u rb p y) rn p (-1)) rn h (nI p) (nI p) 1) c 4 + 1)
theorem addM_facts {g u : mu_T} {c rb rn N h p fr fr2 : Nat} {S fl fl2 : List Nat} {ch : Nat → List Nat} {y : Int32} (w : CW g c rb rn N S ch fl fr) (hh : h ∈ S) (z0 : sm g u [c]) (hp : p < N)
    (hcase : (fl = p :: fl2 ∧ fr2 = fr ∧ gI u c 3 = gI g rn p) ∨ (fl = [] ∧ fl2 = [] ∧ p = fr ∧ fr2 = fr + 1 ∧ fr < N ∧ gI u c 3 = gI g c 3)) (e2 : gI u c 2 = nI fr2) (e4 : gI u c 4 = gI g c 4) :
    sm g (addM u c rb rn h p y) [c, rb, rn, h] ∧ CW (addM u c rb rn h p y) c rb rn N S (va_up ch h (ch h ++ [p])) fl2 fr2 ∧ bys (addM u c rb rn h p y) rb (ch h ++ [p]) = bys g rb (ch h) ++ [y] ∧ ∀ j ∈ S, j ≠ h → bys (addM u c rb rn h p y) rb (ch j) = bys g rb (ch j) := by
  obtain ⟨i1, i2, i3, i4, i5⟩ := w.ids
  have hch := w.2.2.2.1
  have hcS := w.2.2.1
  have hN := w.1.2.2.2.2.2.2.2.2
  have hc4 := w.2.2.2.2.2.2.1
  have w9 := w.2.2.2.2.2.2.2.2.2.2.2.1
  have w6 := w.2.2.2.2.2.2.2.2.1
  have w5 := w.2.2.2.2.2.2.2.1
  have j1 : h ≠ rb := fun e => i1 (by rw [← e]; exact hh)
  have j2 : h ≠ rn := fun e => i2 (by rw [← e]; exact hh)
  have j3 : h ≠ c := fun e => hcS (by rw [← e]; exact hh)
  obtain ⟨f1, f2, f3, f4, f5⟩ := hangM_facts (g := xI (xI u rb p y) rn p (-1)) (x := nI p) (y := nI p) (z := 1) j2
  have z1 : sm g (addM u c rb rn h p y) [c, rb, rn, h] := by
    refine sm.xI ?_ (by simp)
    exact ((((z0.mono (U := [c, rb, rn, h]) (by simp)).xI (by simp)).xI (by simp))).tr f1 (fun _ q => q) (by simp)
  obtain ⟨y1, y2, y3, y4⟩ := hch h hh
  have hz : ∀ k, gI (xI (xI u rb p y) rn p (-1)) h k = gI g h k := fun k => by rw [gI_na j2, gI_na j1, z0.I (by simp [j3])]
  have hrb : ∀ x, gI (addM u c rb rn h p y) rb x = if x = p then y else gI g rb x := fun x => by
    show gI (xI _ c 4 _) rb x = _
    rw [gI_na (Ne.symm i3), f1.I (by simp [i5, Ne.symm j1]), gI_na i5]
    by_cases hx : x = p
    · rw [if_pos hx, hx, gI_eq]
    · rw [if_neg hx, gI_nk hx, z0.I (by simp [Ne.symm i3])]
  have hrn : ∀ x, gI (addM u c rb rn h p y) rn x = if ¬ gI g h 1 < 0 ∧ x = (gI g h 1).toNatClampNeg then nI p else if x = p then -1 else gI g rn x := fun x => by
    show gI (xI _ c 4 _) rn x = _
    rw [gI_na (Ne.symm i4), f5 x, hz]
    by_cases hx : ¬ gI g h 1 < 0 ∧ x = (gI g h 1).toNatClampNeg
    · rw [if_pos hx, if_pos hx]
    · rw [if_neg hx, if_neg hx]
      by_cases hp : x = p
      · rw [if_pos hp, hp, gI_eq]
      · rw [if_neg hp, gI_nk hp, gI_na (Ne.symm i5), z0.I (by simp [Ne.symm i4])]
  have hcc : ∀ k, k ≠ 4 → gI (addM u c rb rn h p y) c k = gI u c k := fun k hk => by
    show gI (xI _ c 4 _) c k = _
    rw [gI_nk hk, f1.I (by simp [i4, Ne.symm j3]), gI_na i4, gI_na i3]
  have hlast : ∀ qs q, ch h = qs ++ [q] → gI g h 1 = nI q ∧ q < N := fun qs q e => ⟨(y4 qs q e).1, by have := ((w9 h hh).2 q (by rw [e]; simp)).1; omega⟩
  have hpn : ∀ j ∈ S, p ∉ ch j := fun j hj hpj => by
    have h9 := (w9 j hj).2 p hpj
    rcases hcase with ⟨e, -⟩ | ⟨-, -, e, -⟩
    · exact h9.2 (by rw [e]; exact List.mem_cons_self)
    · omega
  have htot : tot S ch ≤ N := by omega
  obtain ⟨cw, -, -⟩ := w.add1 (k := addM u c rb rn h p y) (p := p) (fl2 := fl2) (fr2 := fr2) hh z1
    (by
      rcases hcase with ⟨a1, a2, a3⟩ | ⟨a1, a2, a3, a4, a5, a6⟩
      · exact Or.inl ⟨a1, a2, by rw [hcc 3 (by decide)]; exact a3⟩
      · exact Or.inr ⟨a1, a2, a3, a4, a5, by rw [hcc 3 (by decide)]; exact a6⟩)
    (by rw [hcc 2 (by decide)]; exact e2)
    (by
      show gI (xI _ c 4 _) c 4 = _
      rw [gI_eq, f1.I (by simp [i4, Ne.symm j3]), gI_na i4, gI_na i3, e4, hc4, nI_1])
    (by show gI (xI _ c 4 _) h 1 = _; rw [gI_na j3, f2])
    (by show gI (xI _ c 4 _) h 2 = _; rw [gI_na j3, f3, hz, y2, nI_1])
    (by
      show gI (xI _ c 4 _) h 0 = _
      rw [gI_na j3, f4, hz, hz]
      rcases snoc_or (ch h) with e | ⟨qs, q, e⟩
      · rw [if_pos e, if_pos (by rw [(y3 e).2]; decide)]
      · rw [if_neg (show ¬ gI g h 1 < 0 by rw [(hlast qs q e).1]; exact nI_pos (by have := (hlast qs q e).2; omega)), if_neg (show ¬ ch h = [] by rw [e]; simp)])
    (by
      rw [hrn, if_neg, if_pos rfl]
      rintro ⟨a1, a2⟩
      rcases snoc_or (ch h) with e | ⟨qs, q, e⟩
      · exact a1 (by rw [(y3 e).2]; decide)
      · rw [(hlast qs q e).1, nI_clamp (by have := (hlast qs q e).2; omega)] at a2
        exact hpn h hh (by rw [a2, e]; simp))
    (by
      intro qs x e
      rw [hrn, if_pos ⟨by rw [(hlast qs x e).1]; exact nI_pos (by have := (hlast qs x e).2; omega), by rw [(hlast qs x e).1, nI_clamp (by have := (hlast qs x e).2; omega)]⟩])
    (by
      intro x hx hq
      rw [hrn, if_neg, if_neg hx]
      rintro ⟨a1, a2⟩
      rcases snoc_or (ch h) with e | ⟨qs, q, e⟩
      · exact a1 (by rw [(y3 e).2]; decide)
      · rw [(hlast qs q e).1, nI_clamp (by have := (hlast qs q e).2; omega)] at a2
        exact hq qs q e a2)
  refine ⟨z1, cw, ?_, fun j hj hjh => ?_⟩
  · rw [bys, List.map_append]
    congr 1
    · refine List.map_congr_left fun x hx => ?_
      rw [hrb, if_neg (fun e => hpn h hh (by rw [← e]; exact hx))]
    · simp [hrb]
  · refine List.map_congr_left fun x hx => ?_
    rw [hrb, if_neg (fun e => hpn j hj (by rw [← e]; exact hx))]
theorem vu_self {α : Type} (f : Nat → α) (k : Nat) : va_up f k (f k) = f := by
  funext j
  by_cases h : j = k
  · rw [h, va_up_eq]
  · rw [va_up_ne' h]
set_option maxHeartbeats 4000000 in
set_option maxRecDepth 100000 in
theorem k_Ce_add (l : Launch) (q : ev_T) {c rb rn N h b r n k st fr : Nat} {S fl : List Nat} {ch : Nat → List Nat} {ys : List Int32} {ov : Bool} {g : mu_T} (hW : CW g c rb rn N S ch fl fr) (hh : h ∈ S) (hB : RB g b r n ys ov) (hyb : ∀ j, j < ys.length → (ys.getD j 0).toInt8.toInt32 = ys.getD j 0) (hfree0 : b ∉ [c, rb, rn, h] ∧ r ∉ [c, rb, rn, h]) (hst : st + k ≤ ys.length) (hk30 : k < 1073741824) : Ctr l q M_Ce_add 1 [.ref c, .ref h, .ref b, .int (nI st), .int (nI k)] (0, 0, g) (fun v w => v = some (.int (if tot S ch + k ≤ N then 1 else 0)) ∧ if tot S ch + k ≤ N then sm g w.2.2 [c, rb, rn, h] ∧ ∃ (ps fl2 : List Nat) (fr2 : Nat), CW w.2.2 c rb rn N S (va_up ch h (ch h ++ ps)) fl2 fr2 ∧ ps.length = k ∧ bys w.2.2 rb (ch h ++ ps) = bys g rb (ch h) ++ (ys.drop st).take k ∧ ∀ j ∈ S, j ≠ h → bys w.2.2 rb (ch j) = bys g rb (ch j) else w.2.2 = g) := by
  have hW0 := hW
  have hCg := hW.1
  obtain ⟨hkc, hac, hFb, hFn, hkb, hab, hkn, han, hN⟩ := id hCg
  have hused : gI g c 4 = nI (tot S ch) := hW.2.2.2.2.2.2.1
  have htN : tot S ch ≤ N := by have h1 := hW.2.2.2.2.2.2.2.1; have h2 := hW.2.2.2.2.2.2.2.2.1; omega
  have hSn := hW.2.1
  have hkh := (hW.2.2.2.1 h hh).1.1
  have hyl := hB.lt
  have hkB := hB.1.1
  obtain ⟨hbS0, hrS0⟩ := hfree0
  have hbS : b ∉ [c, rb, rn, h] := hbS0
  have hrS : r ∉ [c, rb, rn, h] := hrS0
  have hbc : b ≠ c := fun e => hbS (by simp [e])
  have hrc : r ≠ c := fun e => hrS (by simp [e])
  obtain ⟨i1, i2, i3, i4, i5⟩ := hW.ids
  have jhc : h ≠ c := fun e => hW.2.2.1 (by rw [← e]; exact hh)
  have jhb : h ≠ rb := fun e => i1 (by rw [← e]; exact hh)
  have jhn : h ≠ rn := fun e => i2 (by rw [← e]; exact hh)
  refine Ctr.mk (lb := [some (.ref c), some (.ref h), some (.ref b), some (.int (nI st)), some (.int (nI k)), none, none]) (by decide +kernel) (Nat.le_of_ble_eq_true rfl) rfl rfl ?_
  intro pp ee ss mm aa bb mt cd X hrt hlk hnm
  have loop : tot S ch + k ≤ N → ∀ (d j : Nat) (u : mu_T) (ps fl2 : List Nat) (fr2 : Nat), j + d = k → sm g u [c, rb, rn, h] → CW u c rb rn N S (va_up ch h (ch h ++ ps)) fl2 fr2 → ps.length = j → bys u rb (ch h ++ ps) = bys g rb (ch h) ++ (ys.drop st).take j → (∀ i ∈ S, i ≠ h → bys u rb (ch i) = bys g rb (ch i)) → Vv pp l ee (rmT 1 0 0) ss mm aa bb mt cd 7 q (MQ bb (Qw q (fun v w => v = some (.int (if tot S ch + k ≤ N then 1 else 0)) ∧ if tot S ch + k ≤ N then sm g w.2.2 [c, rb, rn, h] ∧ ∃ (ps fl2 : List Nat) (fr2 : Nat), CW w.2.2 c rb rn N S (va_up ch h (ch h ++ ps)) fl2 fr2 ∧ ps.length = k ∧ bys w.2.2 rb (ch h ++ ps) = bys g rb (ch h) ++ (ys.drop st).take k ∧ ∀ j ∈ S, j ≠ h → bys w.2.2 rb (ch j) = bys g rb (ch j) else w.2.2 = g)) aa ss 0 0 (fun a => q.1 ≤ a)) 20 [some (.ref c), some (.ref h), some (.ref b), some (.int (nI st)), some (.int (nI k)), some (.int (nI j)), none] [] (0, 0, u) := by
    intro hroom d
    induction d with
    | zero =>
      intro j u ps fl2 fr2 hjd hs hW hpl hby0 hbo
      refine v_iload X (dk D_Ce_add 12 rfl) rfl ?_
      refine v_iload X (dk D_Ce_add 13 rfl) rfl ?_
      refine v_icmp_ge (tgt := 139) X (dk D_Ce_add 14 rfl) (by decide) (fun _ => ?_) (fun c24 => absurd (nI_le (by omega) (by omega)) c24)
      refine v_iconst (v := 1) X (dk D_Ce_add 75 rfl) (by decide) ?_
      exact v_zret X hlk hrt rfl (dk D_Ce_add 76 rfl) ⟨by rw [if_pos hroom], by rw [if_pos hroom]; exact ⟨hs, ps, fl2, fr2, hW, by omega, by rw [hby0, show j = k by omega], hbo⟩⟩
    | succ d ih =>
      intro j u ps fl2 fr2 hjd hs hW hpl hby0 hbo
      have hCu := hW.1
      have hacu := hCu.2.1
      have habu := hCu.2.2.2.2.2.1
      have hanu := hCu.2.2.2.2.2.2.2.1
      have hFb : gF u c 0 = some rb := hCu.2.2.1
      have hFn : gF u c 1 = some rn := hCu.2.2.2.1
      have hCHu := hW.2.2.2.1 h hh
      have hahu := hCHu.1.2
      have w5 := hW.2.2.2.2.2.2.2.1
      have w6 := hW.2.2.2.2.2.2.2.2.1
      have w3 := hW.2.2.2.2.2.1
      have w7 := hW.2.2.2.2.2.2.2.2.2.1
      have htt : tot S (va_up ch h (ch h ++ ps)) = tot S ch + j := by have := tot_up (ch := ch) (x := ch h ++ ps) hSn hh; rw [List.length_append] at this; omega
      have htk : (ys.drop st).take (j + 1) = (ys.drop st).take j ++ [ys.getD (st + j) 0] := by
        rw [tk_one _ (by rw [List.length_drop]; omega)]
        simp only [List.getD_eq_getElem?_getD, List.getElem?_drop]
      have hby : (atL ys (nI (st + j))).toInt8.toInt32.toInt8.toInt32 = ys.getD (st + j) 0 := by rw [atL_nI (by omega) (by omega), and255_b, hyb _ (by omega), hyb _ (by omega)]
      cases fl2 with
      | cons p fl3 =>
        have hfree : gI u c 3 = nI p := w3.1
        have hpN : p < N := by have := w7 p List.mem_cons_self; omega
        have z0 : sm u (xI u c 3 (gI u rn p)) [c] := (sm.rf u [c]).xI (by simp)
        have hB1 : RB (xI u c 3 (gI u rn p)) b r n ys ov := (hB.sm hs hbS hrS).sm z0 (by simp [hbc]) (by simp [hrc])
        have z3 : sm u (xI (xI (xI u c 3 (gI u rn p)) rb p (ys.getD (st + j) 0)) rn p (-1)) [c, rb, rn] := ((z0.mono (by simp)).xI (by simp)).xI (by simp)
        have hC3 := hCu.sm z3
        have hH3 := hCHu.1.sm z3
        have hl3 : gI (xI (xI (xI u c 3 (gI u rn p)) rb p (ys.getD (st + j) 0)) rn p (-1)) h 1 = -1 ∨ ∃ x, x < N ∧ gI (xI (xI (xI u c 3 (gI u rn p)) rb p (ys.getD (st + j) 0)) rn p (-1)) h 1 = nI x := by
          rw [z3.I (by simp [jhc, jhb, jhn])]
          exact hCHu.last (fun x hx => by have := ((hW.2.2.2.2.2.2.2.2.2.2.2.1 h hh).2 x hx).1; omega)
        have hac4 : c < gN (hangM (xI (xI (xI u c 3 (gI u rn p)) rb p (ys.getD (st + j) 0)) rn p (-1)) rn h (nI p) (nI p) 1) := by rw [(hangM_facts jhn).1.N]; exact hacu
        obtain ⟨f1, f2, f3, f4⟩ := addM_facts (y := ys.getD (st + j) 0) (fl2 := fl3) (fr2 := fr2) hW hh z0 hpN (Or.inl ⟨rfl, rfl, gI_eq _ _ _ _⟩) ((gI_nk (by decide)).trans hW.2.2.2.2.1) (gI_nk (by decide))
        rw [va_up_eq, bx_uu] at f2
        rw [List.append_assoc] at f2
        rw [va_up_eq, List.append_assoc, hby0, List.append_assoc, ← htk] at f3
        have f4 : ∀ i ∈ S, i ≠ h → bys (addM (xI u c 3 (gI u rn p)) c rb rn h p (ys.getD (st + j) 0)) rb (ch i) = bys g rb (ch i) := fun i hi hih => by have := f4 i hi hih; rw [va_up_ne' hih] at this; exact this.trans (hbo i hi hih)
        refine v_iload X (dk D_Ce_add 12 rfl) rfl ?_
        refine v_iload X (dk D_Ce_add 13 rfl) rfl ?_
        refine v_icmp_ge (tgt := 139) X (dk D_Ce_add 14 rfl) (by decide) (fun c24 => absurd c24 (nI_ge (by omega) (by omega))) (fun _ => ?_)
        refine v_aload_n X (dk D_Ce_add 15 rfl) rfl ?_
        refine v_getI X (dk D_Ce_add 16 rfl) F_Ce_7 rfl hkc hacu ?_
        refine v_if_lt (tgt := 41) X (dk D_Ce_add 17 rfl) (by decide) (fun c31 => absurd c31 (by rw [hfree]; exact nI_pos (by omega))) (fun _ => ?_)
        refine v_aload_n X (dk D_Ce_add 18 rfl) rfl ?_
        refine v_getI X (dk D_Ce_add 19 rfl) F_Ce_7 rfl hkc hacu ?_
        refine v_goto (tgt := 45) X (dk D_Ce_add 20 rfl) (by decide) ?_
        rw [hfree]
        refine v_istore (lb := [some (.ref c), some (.ref h), some (.ref b), some (.int (nI st)), some (.int (nI k)), some (.int (nI j)), some (.int (nI p))]) X (dk D_Ce_add 23 rfl) (by decide) rfl ?_
        refine v_aload_n X (dk D_Ce_add 24 rfl) rfl ?_
        refine v_iload X (dk D_Ce_add 25 rfl) rfl ?_
        refine v_invV (As := [.int (nI p)]) (st := []) X (c_Ce_isCell l q (i := nI p) (g := u) hCu) (dk D_Ce_add 26 rfl) G_Ce_33 K_Ce_isCell V_Ce_isCell hkc rfl hacu rfl rfl (Nat.le_of_ble_eq_true rfl) (Nat.le_of_ble_eq_true rfl) (Nat.le_of_ble_eq_true rfl) (Nat.le_of_ble_eq_true rfl) (Nat.le_of_ble_eq_true rfl) ?_
        rintro v w ⟨rfl, hw⟩
        rw [hw, show (if ¬ nI p < 0 ∧ ¬ nI N ≤ nI p then (1 : Int32) else 0) = 1 from if_pos ⟨nI_pos (by omega), nI_ge hpN (by omega)⟩]
        show Vv _ _ _ _ _ _ _ _ _ _ _ _ _ _ _ [.int 1] (0, 0, u)
        refine v_if_ne (tgt := 58) X (dk D_Ce_add 27 rfl) (by decide) (fun _ => ?_) (fun c53 => absurd c53 (by decide))
        refine v_aload_n X (dk D_Ce_add 30 rfl) rfl ?_
        refine v_getI X (dk D_Ce_add 31 rfl) F_Ce_7 rfl hkc hacu ?_
        refine v_if_lt (tgt := 79) X (dk D_Ce_add 32 rfl) (by decide) (fun c62 => absurd c62 (by rw [hfree]; exact nI_pos (by omega))) (fun _ => ?_)
        refine v_aload_n X (dk D_Ce_add 33 rfl) rfl ?_
        refine v_aload_n X (dk D_Ce_add 34 rfl) rfl ?_
        refine v_getF X (dk D_Ce_add 35 rfl) F_Ce_23 rfl hkc hacu hFn ?_
        refine v_iload X (dk D_Ce_add 36 rfl) rfl ?_
        refine v_iald X (dk D_Ce_add 37 rfl) hkn hanu (vp_in_nI hpN (by omega)) ?_
        rw [nI_clamp (show p < 2147483648 by omega)]
        refine v_putI X (dk D_Ce_add 38 rfl) F_Ce_7 CK_Ce rfl hkc hacu rfl rfl ?_
        refine v_goto (tgt := 89) X (dk D_Ce_add 39 rfl) (by decide) ?_
        refine v_aload_n X (dk D_Ce_add 46 rfl) rfl ?_
        refine v_getF X (dk D_Ce_add 47 rfl) F_Ce_19 rfl hkc hacu hFb ?_
        refine v_iload X (dk D_Ce_add 48 rfl) rfl ?_
        refine v_aload_n X (dk D_Ce_add 49 rfl) rfl ?_
        refine v_iload_n X (dk D_Ce_add 50 rfl) rfl ?_
        refine v_iload X (dk D_Ce_add 51 rfl) rfl ?_
        refine v_iadd X (dk D_Ce_add 52 rfl) ?_
        rw [nI_add]
        refine v_invV (As := [.int (nI (st + j))]) (st := [.int (nI p), .ref rb]) X (k_at l q (i := nI (st + j)) hB1) (dk D_Ce_add 53 rfl) G_Ce_37 K_By_at V_By_at hkB rfl hB1.1.2.1 rfl rfl (Nat.le_of_ble_eq_true rfl) (Nat.le_of_ble_eq_true rfl) (Nat.le_of_ble_eq_true rfl) (Nat.le_of_ble_eq_true rfl) (Nat.le_of_ble_eq_true rfl) ?_
        rintro v w ⟨rfl, hw⟩
        rw [hw]
        show Vv _ _ _ _ _ _ _ _ _ _ _ _ _ _ _ [.int (atL ys (nI (st + j))), .int (nI p), .ref rb] (0, 0, (xI u c 3 (gI u rn p)))
        refine v_i2b X (dk D_Ce_add 54 rfl) rfl ?_
        refine v_bast X (dk D_Ce_add 55 rfl) hkb habu (vp_in_nI hpN (by omega)) rfl ?_
        refine v_aload_n X (dk D_Ce_add 56 rfl) rfl ?_
        refine v_getF X (dk D_Ce_add 57 rfl) F_Ce_23 rfl hkc hacu hFn ?_
        refine v_iload X (dk D_Ce_add 58 rfl) rfl ?_
        refine v_iconst (v := -1) X (dk D_Ce_add 59 rfl) (by decide) ?_
        refine v_iast X (dk D_Ce_add 60 rfl) hkn hanu (vp_in_nI hpN (by omega)) ?_
        refine v_aload_n X (dk D_Ce_add 61 rfl) rfl ?_
        refine v_aload_n X (dk D_Ce_add 62 rfl) rfl ?_
        refine v_iload X (dk D_Ce_add 63 rfl) rfl ?_
        refine v_iload X (dk D_Ce_add 64 rfl) rfl ?_
        refine v_iconst (v := 1) X (dk D_Ce_add 65 rfl) (by decide) ?_
        rw [hby, nI_clamp (show p < 2147483648 by omega)]
        refine v_invV (As := [.ref h, .int (nI p), .int (nI p), .int 1]) (st := []) X (c_Ce_hangM l q (x := nI p) (y := nI p) (z := 1) (hC3) (hH3) hl3) (dk D_Ce_add 66 rfl) G_Ce_43 K_Ce_hang V_Ce_hang hkc rfl hC3.2.1 rfl rfl (Nat.le_of_ble_eq_true rfl) (Nat.le_of_ble_eq_true rfl) (Nat.le_of_ble_eq_true rfl) (Nat.le_of_ble_eq_true rfl) (Nat.le_of_ble_eq_true rfl) ?_
        rintro v w ⟨rfl, hw⟩
        rw [hw]
        show Vv _ _ _ _ _ _ _ _ _ _ _ _ _ _ _ [] (0, 0, hangM (xI (xI (xI u c 3 (gI u rn p)) rb p (ys.getD (st + j) 0)) rn p (-1)) rn h (nI p) (nI p) 1)
        refine v_aload_n X (dk D_Ce_add 67 rfl) rfl ?_
        refine v_dup X (dk D_Ce_add 68 rfl) rfl ?_
        refine v_getI X (dk D_Ce_add 69 rfl) F_Ce_30 rfl hkc hac4 ?_
        refine v_iconst (v := 1) X (dk D_Ce_add 70 rfl) (by decide) ?_
        refine v_iadd X (dk D_Ce_add 71 rfl) ?_
        refine v_putI X (dk D_Ce_add 72 rfl) F_Ce_30 CK_Ce rfl hkc hac4 rfl rfl ?_
        refine v_iinc (v := nI (j + 1)) (lb := [some (.ref c), some (.ref h), some (.ref b), some (.int (nI st)), some (.int (nI k)), some (.int (nI (j + 1))), some (.int (nI p))]) X (dk D_Ce_add 73 rfl) rfl (nI_1 j) (by decide) rfl ?_
        refine v_goto (tgt := 20) X (dk D_Ce_add 74 rfl) (by decide) ?_
        exact v_weak (la := [some (.ref c), some (.ref h), some (.ref b), some (.int (nI st)), some (.int (nI k)), some (.int (nI (j + 1))), none]) ⟨rfl, rfl, rfl, rfl, rfl, rfl, trivial⟩ (ih (j + 1) _ (ps ++ [p]) _ _ (by omega) (hs.tr f1 (fun _ z => z) (fun _ z => z)) f2 (by simp [hpl]) f3 f4)
      | nil =>
        have hfree : gI u c 3 = -1 := w3
        obtain ⟨p, hpp⟩ : ∃ p, p = fr2 := ⟨_, rfl⟩
        have hfr : gI u c 2 = nI p := by rw [hpp]; exact hW.2.2.2.2.1
        have hpN : p < N := by simp only [List.length_nil] at w6; omega
        have z0 : sm u (xI u c 2 (nI (p + 1))) [c] := (sm.rf u [c]).xI (by simp)
        have hB1 : RB (xI u c 2 (nI (p + 1))) b r n ys ov := (hB.sm hs hbS hrS).sm z0 (by simp [hbc]) (by simp [hrc])
        have z3 : sm u (xI (xI (xI u c 2 (nI (p + 1))) rb p (ys.getD (st + j) 0)) rn p (-1)) [c, rb, rn] := ((z0.mono (by simp)).xI (by simp)).xI (by simp)
        have hC3 := hCu.sm z3
        have hH3 := hCHu.1.sm z3
        have hl3 : gI (xI (xI (xI u c 2 (nI (p + 1))) rb p (ys.getD (st + j) 0)) rn p (-1)) h 1 = -1 ∨ ∃ x, x < N ∧ gI (xI (xI (xI u c 2 (nI (p + 1))) rb p (ys.getD (st + j) 0)) rn p (-1)) h 1 = nI x := by
          rw [z3.I (by simp [jhc, jhb, jhn])]
          exact hCHu.last (fun x hx => by have := ((hW.2.2.2.2.2.2.2.2.2.2.2.1 h hh).2 x hx).1; omega)
        have hac4 : c < gN (hangM (xI (xI (xI u c 2 (nI (p + 1))) rb p (ys.getD (st + j) 0)) rn p (-1)) rn h (nI p) (nI p) 1) := by rw [(hangM_facts jhn).1.N]; exact hacu
        obtain ⟨f1, f2, f3, f4⟩ := addM_facts (y := ys.getD (st + j) 0) (fl2 := []) (fr2 := p + 1) hW hh z0 hpN (Or.inr ⟨rfl, rfl, hpp, by omega, by omega, gI_nk (by decide)⟩) (gI_eq _ _ _ _) (gI_nk (by decide))
        rw [va_up_eq, bx_uu] at f2
        rw [List.append_assoc] at f2
        rw [va_up_eq, List.append_assoc, hby0, List.append_assoc, ← htk] at f3
        have f4 : ∀ i ∈ S, i ≠ h → bys (addM (xI u c 2 (nI (p + 1))) c rb rn h p (ys.getD (st + j) 0)) rb (ch i) = bys g rb (ch i) := fun i hi hih => by have := f4 i hi hih; rw [va_up_ne' hih] at this; exact this.trans (hbo i hi hih)
        refine v_iload X (dk D_Ce_add 12 rfl) rfl ?_
        refine v_iload X (dk D_Ce_add 13 rfl) rfl ?_
        refine v_icmp_ge (tgt := 139) X (dk D_Ce_add 14 rfl) (by decide) (fun c24 => absurd c24 (nI_ge (by omega) (by omega))) (fun _ => ?_)
        refine v_aload_n X (dk D_Ce_add 15 rfl) rfl ?_
        refine v_getI X (dk D_Ce_add 16 rfl) F_Ce_7 rfl hkc hacu ?_
        refine v_if_lt (tgt := 41) X (dk D_Ce_add 17 rfl) (by decide) (fun _ => ?_) (fun c31 => absurd (by rw [hfree]; decide) c31)
        refine v_aload_n X (dk D_Ce_add 21 rfl) rfl ?_
        refine v_getI X (dk D_Ce_add 22 rfl) F_Ce_27 rfl hkc hacu ?_
        rw [hfr]
        refine v_istore (lb := [some (.ref c), some (.ref h), some (.ref b), some (.int (nI st)), some (.int (nI k)), some (.int (nI j)), some (.int (nI p))]) X (dk D_Ce_add 23 rfl) (by decide) rfl ?_
        refine v_aload_n X (dk D_Ce_add 24 rfl) rfl ?_
        refine v_iload X (dk D_Ce_add 25 rfl) rfl ?_
        refine v_invV (As := [.int (nI p)]) (st := []) X (c_Ce_isCell l q (i := nI p) (g := u) hCu) (dk D_Ce_add 26 rfl) G_Ce_33 K_Ce_isCell V_Ce_isCell hkc rfl hacu rfl rfl (Nat.le_of_ble_eq_true rfl) (Nat.le_of_ble_eq_true rfl) (Nat.le_of_ble_eq_true rfl) (Nat.le_of_ble_eq_true rfl) (Nat.le_of_ble_eq_true rfl) ?_
        rintro v w ⟨rfl, hw⟩
        rw [hw, show (if ¬ nI p < 0 ∧ ¬ nI N ≤ nI p then (1 : Int32) else 0) = 1 from if_pos ⟨nI_pos (by omega), nI_ge hpN (by omega)⟩]
        show Vv _ _ _ _ _ _ _ _ _ _ _ _ _ _ _ [.int 1] (0, 0, u)
        refine v_if_ne (tgt := 58) X (dk D_Ce_add 27 rfl) (by decide) (fun _ => ?_) (fun c53 => absurd c53 (by decide))
        refine v_aload_n X (dk D_Ce_add 30 rfl) rfl ?_
        refine v_getI X (dk D_Ce_add 31 rfl) F_Ce_7 rfl hkc hacu ?_
        refine v_if_lt (tgt := 79) X (dk D_Ce_add 32 rfl) (by decide) (fun _ => ?_) (fun c62 => absurd (by rw [hfree]; decide) c62)
        refine v_aload_n X (dk D_Ce_add 40 rfl) rfl ?_
        refine v_dup X (dk D_Ce_add 41 rfl) rfl ?_
        refine v_getI X (dk D_Ce_add 42 rfl) F_Ce_27 rfl hkc hacu ?_
        refine v_iconst (v := 1) X (dk D_Ce_add 43 rfl) (by decide) ?_
        refine v_iadd X (dk D_Ce_add 44 rfl) ?_
        rw [hfr, nI_1]
        refine v_putI X (dk D_Ce_add 45 rfl) F_Ce_27 CK_Ce rfl hkc hacu rfl rfl ?_
        refine v_aload_n X (dk D_Ce_add 46 rfl) rfl ?_
        refine v_getF X (dk D_Ce_add 47 rfl) F_Ce_19 rfl hkc hacu hFb ?_
        refine v_iload X (dk D_Ce_add 48 rfl) rfl ?_
        refine v_aload_n X (dk D_Ce_add 49 rfl) rfl ?_
        refine v_iload_n X (dk D_Ce_add 50 rfl) rfl ?_
        refine v_iload X (dk D_Ce_add 51 rfl) rfl ?_
        refine v_iadd X (dk D_Ce_add 52 rfl) ?_
        rw [nI_add]
        refine v_invV (As := [.int (nI (st + j))]) (st := [.int (nI p), .ref rb]) X (k_at l q (i := nI (st + j)) hB1) (dk D_Ce_add 53 rfl) G_Ce_37 K_By_at V_By_at hkB rfl hB1.1.2.1 rfl rfl (Nat.le_of_ble_eq_true rfl) (Nat.le_of_ble_eq_true rfl) (Nat.le_of_ble_eq_true rfl) (Nat.le_of_ble_eq_true rfl) (Nat.le_of_ble_eq_true rfl) ?_
        rintro v w ⟨rfl, hw⟩
        rw [hw]
        show Vv _ _ _ _ _ _ _ _ _ _ _ _ _ _ _ [.int (atL ys (nI (st + j))), .int (nI p), .ref rb] (0, 0, (xI u c 2 (nI (p + 1))))
        refine v_i2b X (dk D_Ce_add 54 rfl) rfl ?_
        refine v_bast X (dk D_Ce_add 55 rfl) hkb habu (vp_in_nI hpN (by omega)) rfl ?_
        refine v_aload_n X (dk D_Ce_add 56 rfl) rfl ?_
        refine v_getF X (dk D_Ce_add 57 rfl) F_Ce_23 rfl hkc hacu hFn ?_
        refine v_iload X (dk D_Ce_add 58 rfl) rfl ?_
        refine v_iconst (v := -1) X (dk D_Ce_add 59 rfl) (by decide) ?_
        refine v_iast X (dk D_Ce_add 60 rfl) hkn hanu (vp_in_nI hpN (by omega)) ?_
        refine v_aload_n X (dk D_Ce_add 61 rfl) rfl ?_
        refine v_aload_n X (dk D_Ce_add 62 rfl) rfl ?_
        refine v_iload X (dk D_Ce_add 63 rfl) rfl ?_
        refine v_iload X (dk D_Ce_add 64 rfl) rfl ?_
        refine v_iconst (v := 1) X (dk D_Ce_add 65 rfl) (by decide) ?_
        rw [hby, nI_clamp (show p < 2147483648 by omega)]
        refine v_invV (As := [.ref h, .int (nI p), .int (nI p), .int 1]) (st := []) X (c_Ce_hangM l q (x := nI p) (y := nI p) (z := 1) (hC3) (hH3) hl3) (dk D_Ce_add 66 rfl) G_Ce_43 K_Ce_hang V_Ce_hang hkc rfl hC3.2.1 rfl rfl (Nat.le_of_ble_eq_true rfl) (Nat.le_of_ble_eq_true rfl) (Nat.le_of_ble_eq_true rfl) (Nat.le_of_ble_eq_true rfl) (Nat.le_of_ble_eq_true rfl) ?_
        rintro v w ⟨rfl, hw⟩
        rw [hw]
        show Vv _ _ _ _ _ _ _ _ _ _ _ _ _ _ _ [] (0, 0, hangM (xI (xI (xI u c 2 (nI (p + 1))) rb p (ys.getD (st + j) 0)) rn p (-1)) rn h (nI p) (nI p) 1)
        refine v_aload_n X (dk D_Ce_add 67 rfl) rfl ?_
        refine v_dup X (dk D_Ce_add 68 rfl) rfl ?_
        refine v_getI X (dk D_Ce_add 69 rfl) F_Ce_30 rfl hkc hac4 ?_
        refine v_iconst (v := 1) X (dk D_Ce_add 70 rfl) (by decide) ?_
        refine v_iadd X (dk D_Ce_add 71 rfl) ?_
        refine v_putI X (dk D_Ce_add 72 rfl) F_Ce_30 CK_Ce rfl hkc hac4 rfl rfl ?_
        refine v_iinc (v := nI (j + 1)) (lb := [some (.ref c), some (.ref h), some (.ref b), some (.int (nI st)), some (.int (nI k)), some (.int (nI (j + 1))), some (.int (nI p))]) X (dk D_Ce_add 73 rfl) rfl (nI_1 j) (by decide) rfl ?_
        refine v_goto (tgt := 20) X (dk D_Ce_add 74 rfl) (by decide) ?_
        exact v_weak (la := [some (.ref c), some (.ref h), some (.ref b), some (.int (nI st)), some (.int (nI k)), some (.int (nI (j + 1))), none]) ⟨rfl, rfl, rfl, rfl, rfl, rfl, trivial⟩ (ih (j + 1) _ (ps ++ [p]) _ _ (by omega) (hs.tr f1 (fun _ z => z) (fun _ z => z)) f2 (by simp [hpl]) f3 f4)
  refine v_iload X (dk D_Ce_add 0 rfl) rfl ?_
  refine v_aload_n X (dk D_Ce_add 1 rfl) rfl ?_
  refine v_getF X (dk D_Ce_add 2 rfl) F_Ce_19 rfl hkc hac hFb ?_
  refine v_alen (v := nI _) X (dk D_Ce_add 3 rfl) hkb rfl hab rfl ?_
  refine v_aload_n X (dk D_Ce_add 4 rfl) rfl ?_
  refine v_getI X (dk D_Ce_add 5 rfl) F_Ce_30 rfl hkc hac ?_
  refine v_isub X (dk D_Ce_add 6 rfl) ?_
  rw [hused, pk_sub htN]
  refine v_icmp_le (tgt := 17) X (dk D_Ce_add 7 rfl) (by decide) (fun c12 => ?_) (fun c12 => ?_)
  · have hroom : tot S ch + k ≤ N := by rcases Nat.lt_or_ge (N - tot S ch) k with z | z; exact absurd c12 (nI_ge z (by omega)); omega
    refine v_iconst (v := nI 0) X (dk D_Ce_add 10 rfl) (by decide) ?_
    refine v_istore (lb := [some (.ref c), some (.ref h), some (.ref b), some (.int (nI st)), some (.int (nI k)), some (.int (nI 0)), none]) X (dk D_Ce_add 11 rfl) (by decide) rfl ?_
    exact v_weak (la := [some (.ref c), some (.ref h), some (.ref b), some (.int (nI st)), some (.int (nI k)), some (.int (nI 0)), none]) ⟨rfl, rfl, rfl, rfl, rfl, rfl, trivial⟩ (loop hroom k 0 g [] fl fr (by omega) (sm.rf g _) (by rw [List.append_nil, vu_self]; exact hW0) rfl (by simp) (fun _ _ _ => rfl))
  · have hroom : ¬ tot S ch + k ≤ N := fun z => c12 (nI_le (by omega) (by omega))
    refine v_iconst (v := 0) X (dk D_Ce_add 8 rfl) (by decide) ?_
    exact v_zret X hlk hrt rfl (dk D_Ce_add 9 rfl) ⟨by rw [if_neg hroom], by rw [if_neg hroom]⟩
