/-! the reference: expressions: operands -/
def EK (g w : mu_T) (n m k st : Nat) (u : List Int32) (p : Nat) (wr dv : Bool) : Prop := rs g w [39, 41, 42, 43, 44] [1020, 1021] ∧ EP w st u p ∧ gI w 1003 41 = (if wr = true then 1 else 0) ∧ gI w 1003 42 = (if dv = true then 1 else 0) ∧ gI w 1003 43 = nI n ∧ gI w 1003 44 = nI m ∧ ∀ j, j < k → gI w 1020 j = gI g 1020 j ∧ gI w 1021 j = gI g 1021 j
variable {g h w : mu_T} {n m k st p : Nat} {u : List Int32} {wr dv : Bool}
theorem EK.tr {n2 m2 k2 p2 : Nat} {wr2 dv2 : Bool} (a : EK g h n m k st u p wr dv) (b : EK h w n2 m2 k2 st u p2 wr2 dv2) (hk : k ≤ k2) : EK g w n2 m2 k st u p2 wr2 dv2 := ⟨a.1.tr b.1, b.2.1, b.2.2.1, b.2.2.2.1, b.2.2.2.2.1, b.2.2.2.2.2.1, fun j hj => ⟨((b.2.2.2.2.2.2 j (by omega)).1).trans ((a.2.2.2.2.2.2 j hj).1), ((b.2.2.2.2.2.2 j (by omega)).2).trans ((a.2.2.2.2.2.2 j hj).2)⟩⟩
theorem EK.self (a : EK g h n m k st u p wr dv) (k2 : Nat) : EK h h n m k2 st u p wr dv := ⟨rs.rf h _ _, a.2.1, a.2.2.1, a.2.2.2.1, a.2.2.2.2.1, a.2.2.2.2.2.1, fun _ _ => ⟨rfl, rfl⟩⟩
theorem EK.sk {p2 : Nat} (a : EK g h n m k st u p wr dv) (z : rs h w [39] []) (e : EP w st u p2) : EK g w n m k st u p2 wr dv := ⟨a.1.tr (z.mono (by simp) (by simp)), e, (z.2 41 (by decide)).trans a.2.2.1, (z.2 42 (by decide)).trans a.2.2.2.1, (z.2 43 (by decide)).trans a.2.2.2.2.1, (z.2 44 (by decide)).trans a.2.2.2.2.2.1, fun j hj => ⟨(z.row (by decide) (by decide) j).trans (a.2.2.2.2.2.2 j hj).1, (z.row (by decide) (by decide) j).trans (a.2.2.2.2.2.2 j hj).2⟩⟩
theorem EK.at_ (x : Nat) (a : EK g h n m k st u p wr dv) (hx : x ≤ u.length + 100) : EK g (xI h 1003 39 (nI (st + x))) n m k st u x wr dv := a.sk ((rs.rf h _ _).fI (by decide)) (a.2.1.to x hx)
theorem EK.wr_ (b : Bool) (a : EK g h n m k st u p wr dv) : EK g (xI h 1003 41 (if b = true then 1 else 0)) n m k st u p b dv := ⟨a.1.fI (by decide), a.2.1.rs (show rs h _ [41] [] from (rs.rf h _ _).fI (by decide)) (by decide) (by decide) (by decide), gI_eq _ _ _ _, (gI_nk (by decide)).trans a.2.2.2.1, (gI_nk (by decide)).trans a.2.2.2.2.1, (gI_nk (by decide)).trans a.2.2.2.2.2.1, fun j hj => ⟨(gI_na (by decide)).trans (a.2.2.2.2.2.2 j hj).1, (gI_na (by decide)).trans (a.2.2.2.2.2.2 j hj).2⟩⟩
theorem EK.ns_ (x : Nat) (a : EK g h n m k st u p wr dv) : EK g (xI h 1003 43 (nI x)) x m k st u p wr dv := ⟨a.1.fI (by decide), a.2.1.rs (show rs h _ [43] [] from (rs.rf h _ _).fI (by decide)) (by decide) (by decide) (by decide), (gI_nk (by decide)).trans a.2.2.1, (gI_nk (by decide)).trans a.2.2.2.1, gI_eq _ _ _ _, (gI_nk (by decide)).trans a.2.2.2.2.2.1, fun j hj => ⟨(gI_na (by decide)).trans (a.2.2.2.2.2.2 j hj).1, (gI_na (by decide)).trans (a.2.2.2.2.2.2 j hj).2⟩⟩
theorem EK.stl {m2 : Nat} {dv2 : Bool} (a : EK g h n m k st u p wr dv) (z : rs h w [42, 44] []) (e1 : gI w 1003 44 = nI m2) (e2 : gI w 1003 42 = if dv2 = true then 1 else 0) : EK g w n m2 k st u p wr dv2 := ⟨a.1.tr (z.mono (by simp) (by simp)), a.2.1.rs z (by decide) (by decide) (by decide), (z.2 41 (by decide)).trans a.2.2.1, e2, (z.2 43 (by decide)).trans a.2.2.2.2.1, e1, fun j hj => ⟨(z.row (by decide) (by decide) j).trans (a.2.2.2.2.2.2 j hj).1, (z.row (by decide) (by decide) j).trans (a.2.2.2.2.2.2 j hj).2⟩⟩
theorem EK.push {x y : Int32} (a : EK g h n m k st u p wr dv) (hk : k ≤ m) : EK g (xI (xI (xI h 1020 m x) 1021 m y) 1003 44 (nI (m + 1))) n (m + 1) k st u p wr dv := by
  have z : rs h (xI (xI (xI h 1020 m x) 1021 m y) 1003 44 (nI (m + 1))) [44] [1020, 1021] := (((rs.rf h [44] [1020, 1021]).rI (by decide) (by decide)).rI (by decide) (by decide)).fI (by decide)
  refine ⟨a.1.tr (z.mono (by simp) (by simp)), a.2.1.rs z (by decide) (by decide) (by decide), (z.2 41 (by decide)).trans a.2.2.1, (z.2 42 (by decide)).trans a.2.2.2.1, (z.2 43 (by decide)).trans a.2.2.2.2.1, gI_eq _ _ _ _, fun j hj => ⟨?_, ?_⟩⟩
  · rw [gI_na (by decide), gI_na (by decide), gI_nk (by omega)]; exact (a.2.2.2.2.2.2 j hj).1
  · rw [gI_na (by decide), gI_nk (by omega), gI_na (by decide)]; exact (a.2.2.2.2.2.2 j hj).2
/-- what waits, newest first, from the place n on -/
def pdW (g : mu_T) (n : Nat) : List (Nat × Int32) → Prop
  | [] => True
  | x :: r => gI g 1020 (n + r.length) = nI (oc x.1) ∧ gI g 1021 (n + r.length) = x.2 ∧ pdW g n r
theorem pdW_kp {g h : mu_T} {n : Nat} : ∀ {pd : List (Nat × Int32)}, pdW g n pd → (∀ j, j < n + pd.length → gI h 1020 j = gI g 1020 j ∧ gI h 1021 j = gI g 1021 j) → pdW h n pd
  | [], _, _ => trivial
  | x :: r, a, hk => ⟨((hk (n + r.length) (by rw [List.length_cons]; omega)).1).trans a.1, ((hk (n + r.length) (by rw [List.length_cons]; omega)).2).trans a.2.1, pdW_kp a.2.2 (fun j hj => hk j (by rw [List.length_cons]; omega))⟩
def bsW (ws : List Nat) : Prop := ws = [] ∨ ∃ r, ws = 22 :: r
def stl (s : Int32) : List (Nat × Int32) → Int32 → Bool → List (Nat × Int32) × Int32 × Bool
  | [], v, dv => ([], v, dv)
  | x :: r, v, dv => if opS x.1 < s then (x :: r, v, dv) else stl s r (ofT x.1 x.2 v) (dv || bzT x.1 v)
theorem op22_0 : opS 22 = 0 := by decide +kernel
theorem rck_bs {s : Int32} (hs : 0 < s) {ws : List Nat} {v : Int32} {vs : List Int32} {dv : Bool} (hb : bsW ws) : rck s ws (v :: vs) dv = (v :: vs, ws, dv) := by
  rcases hb with rfl | ⟨r, rfl⟩
  · rfl
  · rw [rck_c, op22_0, if_pos hs]
theorem rck_stl {s : Int32} (hs : 0 < s) {vs : List Int32} {ws : List Nat} (hb : bsW ws) : ∀ (pd : List (Nat × Int32)) (v : Int32) (dv : Bool), (∀ x ∈ pd, x.1 < 18) → rck s (pd.map Prod.fst ++ ws) (v :: (pd.map Prod.snd ++ vs)) dv = ((stl s pd v dv).2.1 :: ((stl s pd v dv).1.map Prod.snd ++ vs), (stl s pd v dv).1.map Prod.fst ++ ws, (stl s pd v dv).2.2)
  | [], v, dv, _ => rck_bs hs hb
  | x :: r, v, dv, hx => by
    show rck s (x.1 :: (r.map Prod.fst ++ ws)) (v :: (x.2 :: (r.map Prod.snd ++ vs))) dv = _
    rw [rck_c, stl]
    by_cases c : opS x.1 < s
    · rw [if_pos c, if_pos c]; rfl
    · have h18 := hx x (List.mem_cons_self ..)
      rw [if_neg c, if_neg c, if_neg (by omega)]
      exact rck_stl hs hb r _ _ (fun y hy => hx y (List.mem_cons_of_mem _ hy))
theorem stl_1 : ∀ (pd : List (Nat × Int32)) (v : Int32) (dv : Bool), (∀ x ∈ pd, x.1 < 18) → (stl 1 pd v dv).1 = []
  | [], _, _, _ => rfl
  | x :: r, v, dv, hx => by
    rw [stl, if_neg (fun z => absurd z (Int32.not_lt.mpr (op1 x.1 (hx x (List.mem_cons_self ..)))))]
    exact stl_1 r _ _ (fun y hy => hx y (List.mem_cons_of_mem _ hy))
theorem op11 : ∀ k, k < 18 → opS k < 11 := by decide +kernel
theorem frn_app : ∀ (a b : List Nat), (∀ x ∈ a, x < 18) → frn (a ++ b) = frn b
  | [], b, _ => rfl
  | x :: a, b, h => by
    rw [List.cons_append, frn, if_neg (by have := h x (List.mem_cons_self ..); omega), Nat.zero_add]
    exact frn_app a b (fun y hy => h y (List.mem_cons_of_mem _ hy))
theorem fst_18 {pd : List (Nat × Int32)} (h : ∀ x ∈ pd, x.1 < 18) : ∀ x ∈ pd.map Prod.fst, x < 18 := fun x hx => by
  obtain ⟨y, hy, rfl⟩ := List.mem_map.mp hx
  exact h y hy
theorem rck_11 {ws : List Nat} {v : Int32} {vs : List Int32} {dv : Bool} {pd : List (Nat × Int32)} (h : ∀ x ∈ pd, x.1 < 18) (hb : bsW ws) : rck 11 (pd.map Prod.fst ++ ws) (v :: vs) dv = (v :: vs, pd.map Prod.fst ++ ws, dv) := by
  cases pd with
  | nil => exact rck_bs (by decide) hb
  | cons x r =>
    rw [List.map_cons, List.cons_append, rck_c, if_pos (op11 x.1 (h x (List.mem_cons_self ..)))]
theorem evU_11 {s : List Int32} {ws : List Nat} {v : Int32} {vs : List Int32} {dv : Bool} {pd : List (Nat × Int32)} (h : ∀ x ∈ pd, x.1 < 18) (hb : bsW ws) : evU s v vs (pd.map Prod.fst ++ ws) dv = (s, v :: vs, pd.map Prod.fst ++ ws, false, dv) := by
  rw [evU, rck_11 h hb]
theorem pd_10 {pd : List (Nat × Int32)} (h : ∀ x ∈ pd, x.1 < 18) (hw : okW (pd.map Prod.fst)) : pd.length ≤ 10 := by
  have h1 := okW_len hw
  have h2 := tpS_10 (pd.map Prod.fst)
  have h3 := frn_app (pd.map Prod.fst) [] (fst_18 h)
  rw [List.append_nil] at h3
  rw [h3, List.length_map] at h1
  have : frn [] = 0 := rfl
  omega
def UP (g w : mu_T) (n m st : Nat) (u : List Int32) (p : Nat) (dv : Bool) (v : Option Value) : Prop := ∃ x p2 wr dv2, v = some (.int x) ∧ EK g w n m m st u p2 wr dv2 ∧ p2 ≤ u.length + (31 - n) ∧ (wr = true → ∀ vs ws, frn ws = n → evR (u.drop p, vs, ws, true, dv) = (38, 0)) ∧ (wr = false → p < p2 ∧ p2 ≤ u.length ∧ ∀ vs ws, frn ws = n → evR (u.drop p, vs, ws, true, dv) = evR (evU (u.drop p2) x vs ws dv2))
def UC (l : Launch) (q : ev_T) (n d : Nat) : Prop := ∀ (g : mu_T) (st p m : Nat) (u : List Int32) (dv : Bool), Shp g → EK g g n m m st u p false dv → p ≤ u.length → m ≤ 10 * (n + 1) → Ctr l q M_Rf_unary d [.ref 1003] (0, 0, g) (fun v w => UP g w.2.2 n m st u p dv v)
def OP (g w : mu_T) (n m st : Nat) (u : List Int32) (p : Nat) (dv : Bool) (v : Option Value) : Prop := ∃ x p2 wr dv2, v = some (.int x) ∧ EK g w n m m st u p2 wr dv2 ∧ p2 ≤ u.length + (31 - n) ∧ (wr = true → ∀ vs ws, frn ws = n → bsW ws → evR (u.drop p, vs, ws, true, dv) = (38, 0)) ∧ (wr = false → p < p2 ∧ p2 ≤ u.length ∧ btO (u.drop p2) = none ∧ ¬ isSpc (sgn (u.drop p2) 0) = true ∧ ∀ vs ws, frn ws = n → bsW ws → ∃ V W B, evR (u.drop p, vs, ws, true, dv) = evR (u.drop p2, V, W, false, B) ∧ rck 1 W V B = (x :: vs, ws, dv2))
def OC (l : Launch) (q : ev_T) (n d : Nat) : Prop := ∀ (g : mu_T) (st p m : Nat) (u : List Int32) (dv : Bool), Shp g → EK g g n m m st u p false dv → p ≤ u.length → m ≤ 10 * n → Ctr l q M_Rf_operands d [.ref 1003] (0, 0, g) (fun v w => OP g w.2.2 n m st u p dv v)
/-- the loop of operands -/
def OJ (g h : mu_T) (n m st : Nat) (u : List Int32) (p : Nat) (dv0 : Bool) (v : Int32) (pd : List (Nat × Int32)) (p2 : Nat) (wr dv : Bool) : Prop := EK g h n (m + pd.length) m st u p2 wr dv ∧ p2 ≤ u.length + (31 - n) ∧ pdW h m pd ∧ okW (pd.map Prod.fst) ∧ (∀ x ∈ pd, x.1 < 18) ∧ (wr = true → ∀ vs ws, frn ws = n → bsW ws → evR (u.drop p, vs, ws, true, dv0) = (38, 0)) ∧ (wr = false → p < p2 ∧ p2 ≤ u.length ∧ ∀ vs ws, frn ws = n → bsW ws → evR (u.drop p, vs, ws, true, dv0) = evR (u.drop p2, v :: (pd.map Prod.snd ++ vs), pd.map Prod.fst ++ ws, false, dv))
theorem stl_hd {s : Int32} {k : Nat} {pd : List (Nat × Int32)} {v : Int32} {dv : Bool} (h : stl s pd v dv = (pd, v, dv)) (hx : ∀ x ∈ pd, x.1 < 18) (hw : okW (pd.map Prod.fst)) (hk : k < 18) (hs : opS k = s) (hd : ∀ x r, pd = x :: r → opS x.1 < s) : okW (k :: pd.map Prod.fst) := by
  refine ⟨by omega, hw, fun q r hq _ _ => ?_⟩
  cases pd with
  | nil => cases hq
  | cons x t =>
    rw [List.map_cons] at hq
    rw [← (List.cons.inj hq).1, hs]
    exact hd x t rfl
theorem stl_c {x : Nat × Int32} {r : List (Nat × Int32)} {v : Int32} {dv : Bool} (hx : ∀ y ∈ x :: r, y.1 < 18) : stl 1 (x :: r) v dv = stl 1 r (ofT x.1 x.2 v) (dv || bzT x.1 v) := by rw [stl, if_neg (fun z => absurd z (Int32.not_lt.mpr (op1 x.1 (hx x (List.mem_cons_self ..)))))]
theorem stl_q {P : Option Value → Prop} {x : Nat × Int32} {r : List (Nat × Int32)} {v : Int32} {dv : Bool} (hx : ∀ y ∈ x :: r, y.1 < 18) (h : P (some (.int (stl 1 (x :: r) v dv).2.1))) : P (some (.int (stl 1 r (ofT x.1 x.2 v) (dv || bzT x.1 v)).2.1)) := by rw [stl_c hx] at h; exact h
theorem bt_nil : btO [] = none := by decide +kernel
theorem skB_ns : ∀ (s : List Int32), ¬ isSpc (sgn (skB s) 0) = true
  | [] => by decide
  | b :: s => by
    by_cases c : isSpc (b &&& 255) = true
    · rw [show skB (b :: s) = skB s from if_pos c]; exact skB_ns s
    · rw [show skB (b :: s) = b :: s from if_neg c]; exact c
theorem stl_sub : ∀ (s : Int32) (pd : List (Nat × Int32)) (v : Int32) (dv : Bool), (∀ x ∈ pd, x.1 < 18) → okW (pd.map Prod.fst) → (∀ x ∈ (stl s pd v dv).1, x.1 < 18) ∧ okW ((stl s pd v dv).1.map Prod.fst) ∧ ∀ x r, (stl s pd v dv).1 = x :: r → opS x.1 < s
  | s, [], v, dv, h, hw => ⟨h, hw, fun x r e => by cases e⟩
  | s, y :: t, v, dv, h, hw => by
    rw [stl]
    by_cases c : opS y.1 < s
    · rw [if_pos c]; exact ⟨h, hw, fun x r e => by rw [← (List.cons.inj e).1]; exact c⟩
    · rw [if_neg c]; exact stl_sub s t _ _ (fun x hx => h x (List.mem_cons_of_mem _ hx)) hw.2.1
theorem op_0 : ∀ k, k < 18 → (0 : Int32) < opS k := by decide +kernel
theorem OJ_step {g h h4 : mu_T} {n m st : Nat} {u : List Int32} {p : Nat} {dv0 : Bool} {v : Int32} {pd : List (Nat × Int32)} {p2 : Nat} {wr dv : Bool} {k L : Nat} {pd1 : List (Nat × Int32)} {v1 x : Int32} {dv1 : Bool} {p4 : Nat} {wr4 dv4 : Bool} (hJ : OJ g h n m st u p dv0 v pd p2 wr dv) (hwr : wr = false) (hbt : btO (u.drop p2) = some k) (hk : k < 18) (hlen : (sgO k).length = L) (hst : stl (opS k) pd v dv = (pd1, v1, dv1)) (k1 : EK g h4 n (m + pd1.length + 1) m st u p4 wr4 dv4) (k2 : p4 ≤ u.length + (31 - n)) (k3 : pdW h4 m ((k, v1) :: pd1)) (k4 : wr4 = true → ∀ vs ws, frn ws = n → evR (u.drop (p2 + L), vs, ws, true, dv1) = (38, 0)) (k5 : wr4 = false → p2 + L < p4 ∧ p2 + L < p4 ∧ p4 ≤ u.length ∧ ∀ vs ws, frn ws = n → evR (u.drop (p2 + L), vs, ws, true, dv1) = evR (evU (u.drop p4) x vs ws dv4)) : OJ g h4 n m st u p dv0 x ((k, v1) :: pd1) p4 wr4 dv4 := by
  obtain ⟨j1, j2, j3, j4, j5, j6, j7⟩ := hJ
  obtain ⟨s1, s2, s3⟩ := stl_sub (opS k) pd v dv j5 j4
  rw [hst] at s1 s2 s3
  have hx : ∀ y ∈ (k, v1) :: pd1, y.1 < 18 := fun y hy => by
    rcases List.mem_cons.mp hy with e | e
    · rw [e]; exact hk
    · exact s1 y e
  have hok : okW (((k, v1) :: pd1).map Prod.fst) := by
    refine ⟨by show k < 23; omega, s2, fun q r hq _ _ => ?_⟩
    cases pd1 with
    | nil => cases hq
    | cons y t =>
      rw [List.map_cons] at hq
      rw [← (List.cons.inj hq).1]
      exact s3 y t rfl
  have key : ∀ vs ws, frn ws = n → bsW ws → evR (u.drop p, vs, ws, true, dv0) = evR (u.drop (p2 + L), v1 :: (pd1.map Prod.snd ++ vs), ((k, v1) :: pd1).map Prod.fst ++ ws, true, dv1) := by
    intro vs ws e1 e2
    rw [(j7 hwr).2.2 vs ws e1 e2, evBe hbt, rck_stl (op_0 k hk) e2 pd v dv j5, hst, List.drop_drop, hlen]
    rfl
  have hfr : ∀ ws, frn ws = n → frn (((k, v1) :: pd1).map Prod.fst ++ ws) = n := fun ws e => (frn_app _ ws (fst_18 hx)).trans e
  refine ⟨by rw [List.length_cons, ← Nat.add_assoc]; exact k1, k2, k3, hok, hx, fun z vs ws e1 e2 => ?_, fun z => ⟨?_, (k5 z).2.2.1, fun vs ws e1 e2 => ?_⟩⟩
  · rw [key vs ws e1 e2]; exact k4 z _ _ (hfr ws e1)
  · have h1 := (j7 hwr).1
    have h2 := (k5 z).1
    omega
  · rw [key vs ws e1 e2, (k5 z).2.2.2 _ _ (hfr ws e1), evU_11 hx e2]
    rfl
set_option maxHeartbeats 4000000 in
set_option maxRecDepth 100000 in
theorem r_operands (l : Launch) (q : ev_T) {n d : Nat} (hU : UC l q n d) (hd : 3 ≤ d) (hn : n ≤ 30) : OC l q n (d + 1) := by
  intro g st p m u dv0 hS hK0 hp hm
  refine Ctr.mk (lb := [some (.ref 1003), none, none, none]) (by decide +kernel) (Nat.le_of_ble_eq_true rfl) rfl rfl ?_
  intro pp ee ss mm aa bb mt cd X hrt hlk hnm
  have fin : ∀ (wr : Bool) (p2 : Nat) (pd : List (Nat × Int32)) (v : Int32) (dv : Bool) (h : mu_T), EK g h n (m + pd.length) m st u p2 wr dv → pdW h m pd → (∀ x ∈ pd, x.1 < 18) → pd.length ≤ 10 → (∀ w2, EK g w2 n m m st u p2 wr (stl 1 pd v dv).2.2 → OP g w2 n m st u p dv0 (some (.int (stl 1 pd v dv).2.1))) → Vv pp l ee (rmT (d + 1) 0 0) ss mm aa bb mt cd 4 q (MQ bb (Qw q (fun v w => OP g w.2.2 n m st u p dv0 v)) aa ss 0 0 (fun a => q.1 ≤ a)) 134 [some (.ref 1003), some (.int (nI m)), some (.int v), none] [] (0, 0, h) := by
    intro wr p2 pd
    induction pd with
    | nil =>
      intro v dv h hK hW hx hl hQ
      have hSh := hK.1.S hS
      refine v_aload_n X (dk D_Rf_operands 74 rfl) rfl ?_
      refine v_getI X (dk D_Rf_operands 75 rfl) F_Rf_353 rfl rfl (hSh.lt (by decide)) ?_
      rw [hK.2.2.2.2.2.1]
      refine v_iload_n X (dk D_Rf_operands 76 rfl) rfl ?_
      refine v_icmp_le (tgt := 151) X (dk D_Rf_operands 77 rfl) (by decide) (fun _ => ?_) (fun c139 => absurd (Int32.le_refl _) c139)
      refine v_iload_n X (dk D_Rf_operands 83 rfl) rfl ?_
      exact v_iret X hlk hrt (dk D_Rf_operands 84 rfl) (hQ h hK)
    | cons x r ih =>
      intro v dv h hK hW hx hl hQ
      have hSh := hK.1.S hS
      have hl2 : r.length ≤ 10 := by rw [List.length_cons] at hl; omega
      rw [List.length_cons, ← Nat.add_assoc] at hK
      refine v_aload_n X (dk D_Rf_operands 74 rfl) rfl ?_
      refine v_getI X (dk D_Rf_operands 75 rfl) F_Rf_353 rfl rfl (hSh.lt (by decide)) ?_
      rw [hK.2.2.2.2.2.1]
      refine v_iload_n X (dk D_Rf_operands 76 rfl) rfl ?_
      refine v_icmp_le (tgt := 151) X (dk D_Rf_operands 77 rfl) (by decide) (fun c139 => absurd c139 (fun z => absurd ((nI_leI (by omega) (by omega)).mp z) (by omega))) (fun _ => ?_)
      refine v_aload_n X (dk D_Rf_operands 78 rfl) rfl ?_
      refine v_iload_n X (dk D_Rf_operands 79 rfl) rfl ?_
      refine v_invV (As := [.int v]) (st := []) X (r_settle l q (k := x.1) (j := m + r.length) (a := x.2) (b := v) (bz := dv) hSh (hx x (List.mem_cons_self ..)) (by omega) hK.2.2.2.2.2.1 hW.1 hW.2.1 hK.2.2.2.1) (dk D_Rf_operands 80 rfl) G_Rf_375 K_Rf_settle V_Rf_settle rfl rfl (hSh.lt (by decide)) rfl rfl (Nat.le_of_ble_eq_true rfl) (by dsimp only [rmT]; omega) (by dsimp only [rmT]; omega) (Nat.le_of_ble_eq_true rfl) (Nat.le_of_ble_eq_true rfl) ?_
      rintro v1 w1 ⟨rfl, a1, a2, a3⟩
      show Vv _ _ _ _ _ _ _ _ _ _ _ _ _ _ _ [.int (ofT x.1 x.2 v)] (0, 0, w1.2.2)
      refine v_istore_n (lb := [some (.ref 1003), some (.int (nI m)), some (.int (ofT x.1 x.2 v)), none]) X (dk D_Rf_operands 81 rfl) (by decide) rfl ?_
      refine v_goto (tgt := 134) X (dk D_Rf_operands 82 rfl) (by decide) ?_
      exact ih (ofT x.1 x.2 v) (dv || bzT x.1 v) w1.2.2 (hK.stl a1 a2 a3) (pdW_kp hW.2.2 (fun j _ => ⟨a1.row (by decide) (by decide) j, a1.row (by decide) (by decide) j⟩)) (fun y hy => hx y (List.mem_cons_of_mem _ hy)) (by rw [List.length_cons] at hl; omega) (fun w2 e2 => stl_q (P := fun z => OP g w2 n m st u p dv0 z) hx (hQ w2 (by rw [stl_c hx]; exact e2)))
  have push : ∀ (k p2 : Nat) (pd : List (Nat × Int32)) (v : Int32) (dv : Bool) (h : mu_T), k < 18 → EK g h n (m + pd.length) m st u p2 false dv → p2 ≤ u.length → pdW h m pd → (∀ x ∈ pd, x.1 < 18) → okW (k :: pd.map Prod.fst) → (∀ (x : Int32) (p4 : Nat) (wr4 dv4 : Bool) (h4 : mu_T), EK g h4 n (m + pd.length + 1) m st u p4 wr4 dv4 → p4 ≤ u.length + (31 - n) → pdW h4 m ((k, v) :: pd) → (wr4 = true → ∀ vs ws, frn ws = n → evR (u.drop p2, vs, ws, true, dv) = (38, 0)) → (wr4 = false → p2 < p4 ∧ p2 < p4 ∧ p4 ≤ u.length ∧ ∀ vs ws, frn ws = n → evR (u.drop p2, vs, ws, true, dv) = evR (evU (u.drop p4) x vs ws dv4)) → ∀ (p3 : Nat), u.drop p4 = skB (u.drop p3) → Vv pp l ee (rmT (d + 1) 0 0) ss mm aa bb mt cd 4 q (MQ bb (Qw q (fun v w => OP g w.2.2 n m st u p dv0 v)) aa ss 0 0 (fun a => q.1 ≤ a)) 14 [some (.ref 1003), some (.int (nI m)), some (.int x), none] [] (0, 0, h4)) → Vv pp l ee (rmT (d + 1) 0 0) ss mm aa bb mt cd 4 q (MQ bb (Qw q (fun v w => OP g w.2.2 n m st u p dv0 v)) aa ss 0 0 (fun a => q.1 ≤ a)) 92 [some (.ref 1003), some (.int (nI m)), some (.int v), some (.int (nI (oc k)))] [] (0, 0, h) := by
    intro k p2 pd v dv h hk hK hp2 hW hx hok hnext
    have hSh := hK.1.S hS
    have hl : pd.length + 1 ≤ 10 := by
      have := pd_10 (pd := (k, v) :: pd) (fun y hy => by rcases List.mem_cons.mp hy with e | e; (rw [e]; exact hk); exact hx y e) hok
      rw [List.length_cons] at this; exact this
    have hKp := hK.push (x := nI (oc k)) (y := v) (by omega)
    have hSp := hKp.1.S hS
    have hWp : pdW (xI (xI (xI h 1020 (m + pd.length) (nI (oc k))) 1021 (m + pd.length) v) 1003 44 (nI (m + pd.length + 1))) m ((k, v) :: pd) := ⟨by rw [gI_na (by decide), gI_na (by decide), gI_eq], by rw [gI_na (by decide), gI_eq], pdW_kp hW (fun j hj => ⟨by rw [gI_na (by decide), gI_na (by decide), gI_nk (by omega)], by rw [gI_na (by decide), gI_nk (by omega), gI_na (by decide)]⟩)⟩
    refine v_aload_n X (dk D_Rf_operands 50 rfl) rfl ?_
    refine v_getF X (dk D_Rf_operands 51 rfl) F_Rf_62 rfl rfl (hSh.lt (by decide)) (hSh.2 1003 45) ?_
    refine v_aload_n X (dk D_Rf_operands 52 rfl) rfl ?_
    refine v_getI X (dk D_Rf_operands 53 rfl) F_Rf_353 rfl rfl (hSh.lt (by decide)) ?_
    rw [hK.2.2.2.2.2.1]
    refine v_iload_n X (dk D_Rf_operands 54 rfl) rfl ?_
    refine v_iast X (dk D_Rf_operands 55 rfl) rfl (hSh.lt (by decide)) (vp_in_nI (show m + pd.length < 400 by omega) (by decide)) ?_
    rw [nI_clamp (by omega)]
    refine v_aload_n X (dk D_Rf_operands 56 rfl) rfl ?_
    refine v_getF X (dk D_Rf_operands 57 rfl) F_Rf_65 rfl rfl (hSh.lt (by decide)) (hSh.2 1003 46) ?_
    refine v_aload_n X (dk D_Rf_operands 58 rfl) rfl ?_
    refine v_getI X (dk D_Rf_operands 59 rfl) F_Rf_353 rfl rfl (hSh.lt (by decide)) ?_
    rw [gI_na (by decide), hK.2.2.2.2.2.1]
    refine v_iload_n X (dk D_Rf_operands 60 rfl) rfl ?_
    refine v_iast X (dk D_Rf_operands 61 rfl) rfl (hSh.lt (by decide)) (vp_in_nI (show m + pd.length < 400 by omega) (by decide)) ?_
    rw [nI_clamp (by omega)]
    refine v_aload_n X (dk D_Rf_operands 62 rfl) rfl ?_
    refine v_dup X (dk D_Rf_operands 63 rfl) rfl ?_
    refine v_getI X (dk D_Rf_operands 64 rfl) F_Rf_353 rfl rfl (hSh.lt (by decide)) ?_
    rw [gI_na (by decide), gI_na (by decide), hK.2.2.2.2.2.1]
    refine v_iconst (v := 1) X (dk D_Rf_operands 65 rfl) (by decide) ?_
    refine v_iadd X (dk D_Rf_operands 66 rfl) ?_
    rw [nI_1]
    refine v_putI X (dk D_Rf_operands 67 rfl) F_Rf_353 CK_Rf rfl rfl (hSh.lt (by decide)) rfl rfl ?_
    refine v_aload_n X (dk D_Rf_operands 68 rfl) rfl ?_
    refine v_invV (As := []) (st := []) X (hU _ st p2 (m + pd.length + 1) u dv hSp (EK.self hKp _) hp2 (by omega)) (dk D_Rf_operands 69 rfl) G_Rf_363 K_Rf_unary V_Rf_unary rfl rfl (hSp.lt (by decide)) rfl rfl (Nat.le_of_ble_eq_true rfl) (by dsimp only [rmT]; omega) (by dsimp only [rmT]; omega) (Nat.le_of_ble_eq_true rfl) (Nat.le_of_ble_eq_true rfl) ?_
    rintro v1 w1 ⟨x, p3, wr3, dv3, rfl, hK3, hb3, hw3, hn3⟩
    have S3 := hK3.1.S hSp
    have hW3 : pdW w1.2.2 m ((k, v) :: pd) := pdW_kp hWp (fun j hj => hK3.2.2.2.2.2.2 j (by rw [List.length_cons] at hj; omega))
    show Vv _ _ _ _ _ _ _ _ _ _ _ _ _ _ _ [.int x] (0, 0, w1.2.2)
    refine v_istore_n (lb := [some (.ref 1003), some (.int (nI m)), some (.int x), some (.int (nI (oc k)))]) X (dk D_Rf_operands 70 rfl) (by decide) rfl ?_
    refine v_aload_n X (dk D_Rf_operands 71 rfl) rfl ?_
    refine v_invV (As := []) (st := []) X (r_skipBlanks l q S3 hK3.2.1) (dk D_Rf_operands 72 rfl) G_Rf_366 K_Rf_skipBlanks V_Rf_skipBlanks rfl rfl (S3.lt (by decide)) rfl rfl (Nat.le_of_ble_eq_true rfl) (by dsimp only [rmT]; omega) (by dsimp only [rmT]; omega) (Nat.le_of_ble_eq_true rfl) (Nat.le_of_ble_eq_true rfl) ?_
    rintro v2 w2 ⟨rfl, p4, b1, b2, b3, b4, b5⟩
    show Vv _ _ _ _ _ _ _ _ _ _ _ _ _ _ _ [] (0, 0, w2.2.2)
    refine v_goto (tgt := 14) X (dk D_Rf_operands 73 rfl) (by decide) ?_
    exact v_weak (la := [some (.ref 1003), some (.int (nI m)), some (.int x), none]) ⟨rfl, rfl, rfl, trivial⟩ <| hnext x p4 wr3 dv3 w2.2.2 (((hK.push (by omega)).tr hK3 (by omega)).sk b1 b2) (by omega) (pdW_kp hW3 (fun j _ => ⟨b1.row (by decide) (by decide) j, b1.row (by decide) (by decide) j⟩)) hw3 (fun z => ⟨by have := (hn3 z).1; omega, by have := (hn3 z).1; omega, by have := (hn3 z).2.1; omega, fun vs ws e => (by rw [(hn3 z).2.2 vs ws e, evU, evR_sk, ← b5]; rfl)⟩) p3 b5
  have sett : ∀ (k p2 : Nat), k < 18 → p2 ≤ u.length → ∀ (pd : List (Nat × Int32)) (v : Int32) (dv : Bool) (h : mu_T), EK g h n (m + pd.length) m st u p2 false dv → pdW h m pd → (∀ x ∈ pd, x.1 < 18) → okW (pd.map Prod.fst) → (∀ (pd1 : List (Nat × Int32)) (v1 : Int32) (dv1 : Bool), stl (opS k) pd v dv = (pd1, v1, dv1) → ∀ (x : Int32) (p4 : Nat) (wr4 dv4 : Bool) (h4 : mu_T), EK g h4 n (m + pd1.length + 1) m st u p4 wr4 dv4 → p4 ≤ u.length + (31 - n) → pdW h4 m ((k, v1) :: pd1) → (wr4 = true → ∀ vs ws, frn ws = n → evR (u.drop p2, vs, ws, true, dv1) = (38, 0)) → (wr4 = false → p2 < p4 ∧ p2 < p4 ∧ p4 ≤ u.length ∧ ∀ vs ws, frn ws = n → evR (u.drop p2, vs, ws, true, dv1) = evR (evU (u.drop p4) x vs ws dv4)) → ∀ (p3 : Nat), u.drop p4 = skB (u.drop p3) → Vv pp l ee (rmT (d + 1) 0 0) ss mm aa bb mt cd 4 q (MQ bb (Qw q (fun v w => OP g w.2.2 n m st u p dv0 v)) aa ss 0 0 (fun a => q.1 ≤ a)) 14 [some (.ref 1003), some (.int (nI m)), some (.int x), none] [] (0, 0, h4)) → Vv pp l ee (rmT (d + 1) 0 0) ss mm aa bb mt cd 4 q (MQ bb (Qw q (fun v w => OP g w.2.2 n m st u p dv0 v)) aa ss 0 0 (fun a => q.1 ≤ a)) 54 [some (.ref 1003), some (.int (nI m)), some (.int v), some (.int (nI (oc k)))] [] (0, 0, h) := by
    intro k p2 hk hp2 pd
    induction pd with
    | nil =>
      intro v dv h hK hW hx hok hnext
      have hSh := hK.1.S hS
      refine v_aload_n X (dk D_Rf_operands 28 rfl) rfl ?_
      refine v_getI X (dk D_Rf_operands 29 rfl) F_Rf_353 rfl rfl (hSh.lt (by decide)) ?_
      rw [hK.2.2.2.2.2.1]
      refine v_iload_n X (dk D_Rf_operands 30 rfl) rfl ?_
      refine v_icmp_le (tgt := 92) X (dk D_Rf_operands 31 rfl) (by decide) (fun _ => ?_) (fun c59 => absurd (Int32.le_refl _) c59)
      exact push k p2 [] v dv h hk hK hp2 hW hx (stl_hd (s := opS k) (pd := []) (v := v) (dv := dv) rfl hx hok hk rfl (fun y t e => by cases e)) (hnext [] v dv rfl)
    | cons x r ih =>
      intro v dv h hK hW hx hok hnext
      have hSh := hK.1.S hS
      have hl := pd_10 hx hok
      have hx1 := hx x (List.mem_cons_self ..)
      rw [List.length_cons] at hl hK
      by_cases cs : opS x.1 < opS k
      · skip
        refine v_aload_n X (dk D_Rf_operands 28 rfl) rfl ?_
        refine v_getI X (dk D_Rf_operands 29 rfl) F_Rf_353 rfl rfl (hSh.lt (by decide)) ?_
        rw [hK.2.2.2.2.2.1]
        refine v_iload_n X (dk D_Rf_operands 30 rfl) rfl ?_
        refine v_icmp_le (tgt := 92) X (dk D_Rf_operands 31 rfl) (by decide) (fun c59 => absurd c59 (fun z => absurd ((nI_leI (by omega) (by omega)).mp z) (by omega))) (fun _ => ?_)
        refine v_aload_n X (dk D_Rf_operands 32 rfl) rfl ?_
        refine v_getF X (dk D_Rf_operands 33 rfl) F_Rf_62 rfl rfl (hSh.lt (by decide)) (hSh.2 1003 45) ?_
        refine v_aload_n X (dk D_Rf_operands 34 rfl) rfl ?_
        refine v_getI X (dk D_Rf_operands 35 rfl) F_Rf_353 rfl rfl (hSh.lt (by decide)) ?_
        rw [hK.2.2.2.2.2.1]
        refine v_iconst (v := 1) X (dk D_Rf_operands 36 rfl) (by decide) ?_
        refine v_isub X (dk D_Rf_operands 37 rfl) ?_
        rw [show nI (m + (r.length + 1)) - 1 = nI (m + r.length) from pk_sub (a := m + (r.length + 1)) (b := 1) (by omega)]
        refine v_iald X (dk D_Rf_operands 38 rfl) rfl (hSh.lt (by decide)) (vp_in_nI (show m + r.length < 400 by omega) (by decide)) ?_
        rw [nI_clamp (by omega), hW.1]
        refine v_bipush (v := 10) X (dk D_Rf_operands 39 rfl) (by decide) ?_
        refine v_idiv X (dk D_Rf_operands 40 rfl) (by decide) ?_
        rw [oc_S x.1 hx1]
        refine v_iload_n X (dk D_Rf_operands 41 rfl) rfl ?_
        refine v_bipush (v := 10) X (dk D_Rf_operands 42 rfl) (by decide) ?_
        refine v_idiv X (dk D_Rf_operands 43 rfl) (by decide) ?_
        rw [oc_S k hk]
        refine v_icmp_lt (tgt := 92) X (dk D_Rf_operands 44 rfl) (by decide) (fun _ => ?_) (fun c80 => absurd cs c80)
        exact push k p2 (x :: r) v dv h hk hK hp2 hW hx (stl_hd (s := opS k) (pd := (x :: r)) (v := v) (dv := dv) (if_pos cs) hx hok hk rfl (fun y t e => by rw [← (List.cons.inj e).1]; exact cs)) (hnext (x :: r) v dv (if_pos cs))
      · skip
        refine v_aload_n X (dk D_Rf_operands 28 rfl) rfl ?_
        refine v_getI X (dk D_Rf_operands 29 rfl) F_Rf_353 rfl rfl (hSh.lt (by decide)) ?_
        rw [hK.2.2.2.2.2.1]
        refine v_iload_n X (dk D_Rf_operands 30 rfl) rfl ?_
        refine v_icmp_le (tgt := 92) X (dk D_Rf_operands 31 rfl) (by decide) (fun c59 => absurd c59 (fun z => absurd ((nI_leI (by omega) (by omega)).mp z) (by omega))) (fun _ => ?_)
        refine v_aload_n X (dk D_Rf_operands 32 rfl) rfl ?_
        refine v_getF X (dk D_Rf_operands 33 rfl) F_Rf_62 rfl rfl (hSh.lt (by decide)) (hSh.2 1003 45) ?_
        refine v_aload_n X (dk D_Rf_operands 34 rfl) rfl ?_
        refine v_getI X (dk D_Rf_operands 35 rfl) F_Rf_353 rfl rfl (hSh.lt (by decide)) ?_
        rw [hK.2.2.2.2.2.1]
        refine v_iconst (v := 1) X (dk D_Rf_operands 36 rfl) (by decide) ?_
        refine v_isub X (dk D_Rf_operands 37 rfl) ?_
        rw [show nI (m + (r.length + 1)) - 1 = nI (m + r.length) from pk_sub (a := m + (r.length + 1)) (b := 1) (by omega)]
        refine v_iald X (dk D_Rf_operands 38 rfl) rfl (hSh.lt (by decide)) (vp_in_nI (show m + r.length < 400 by omega) (by decide)) ?_
        rw [nI_clamp (by omega), hW.1]
        refine v_bipush (v := 10) X (dk D_Rf_operands 39 rfl) (by decide) ?_
        refine v_idiv X (dk D_Rf_operands 40 rfl) (by decide) ?_
        rw [oc_S x.1 hx1]
        refine v_iload_n X (dk D_Rf_operands 41 rfl) rfl ?_
        refine v_bipush (v := 10) X (dk D_Rf_operands 42 rfl) (by decide) ?_
        refine v_idiv X (dk D_Rf_operands 43 rfl) (by decide) ?_
        rw [oc_S k hk]
        refine v_icmp_lt (tgt := 92) X (dk D_Rf_operands 44 rfl) (by decide) (fun c80 => absurd c80 cs) (fun _ => ?_)
        refine v_aload_n X (dk D_Rf_operands 45 rfl) rfl ?_
        refine v_iload_n X (dk D_Rf_operands 46 rfl) rfl ?_
        refine v_invV (As := [.int v]) (st := []) X (r_settle l q (k := x.1) (j := m + r.length) (a := x.2) (b := v) (bz := dv) hSh (hx x (List.mem_cons_self ..)) (by omega) hK.2.2.2.2.2.1 hW.1 hW.2.1 hK.2.2.2.1) (dk D_Rf_operands 47 rfl) G_Rf_375 K_Rf_settle V_Rf_settle rfl rfl (hSh.lt (by decide)) rfl rfl (Nat.le_of_ble_eq_true rfl) (by dsimp only [rmT]; omega) (by dsimp only [rmT]; omega) (Nat.le_of_ble_eq_true rfl) (Nat.le_of_ble_eq_true rfl) ?_
        rintro v1 w1 ⟨rfl, a1, a2, a3⟩
        show Vv _ _ _ _ _ _ _ _ _ _ _ _ _ _ _ [.int (ofT x.1 x.2 v)] (0, 0, w1.2.2)
        refine v_istore_n (lb := [some (.ref 1003), some (.int (nI m)), some (.int (ofT x.1 x.2 v)), some (.int (nI (oc k)))]) X (dk D_Rf_operands 48 rfl) (by decide) rfl ?_
        refine v_goto (tgt := 54) X (dk D_Rf_operands 49 rfl) (by decide) ?_
        exact ih (ofT x.1 x.2 v) (dv || bzT x.1 v) w1.2.2 (hK.stl a1 a2 a3) (pdW_kp hW.2.2 (fun j _ => ⟨a1.row (by decide) (by decide) j, a1.row (by decide) (by decide) j⟩)) (fun y hy => hx y (List.mem_cons_of_mem _ hy)) hok.2.1 (fun pd1 v2 dv2 e => hnext pd1 v2 dv2 ((if_neg cs).trans e))
  have loop : ∀ (e : Nat) (v : Int32) (p2 : Nat) (h : mu_T) (pd : List (Nat × Int32)) (wr dv : Bool), (wr = false → u.length ≤ p2 + e) → OJ g h n m st u p dv0 v pd p2 wr dv → ¬ isSpc (sgn (u.drop p2) 0) = true → Vv pp l ee (rmT (d + 1) 0 0) ss mm aa bb mt cd 4 q (MQ bb (Qw q (fun v w => OP g w.2.2 n m st u p dv0 v)) aa ss 0 0 (fun a => q.1 ≤ a)) 14 [some (.ref 1003), some (.int (nI m)), some (.int v), none] [] (0, 0, h) := by
    intro e
    induction e with
    | zero =>
      intro v p2 h pd wr dv he hJ hsp
      have hSh := hJ.1.1.S hS
      by_cases hwr : wr = true
      · skip
        refine v_aload_n X (dk D_Rf_operands 8 rfl) rfl ?_
        refine v_getI X (dk D_Rf_operands 9 rfl) F_Rf_343 rfl rfl (hSh.lt (by decide)) ?_
        refine v_if_ne (tgt := 134) X (dk D_Rf_operands 10 rfl) (by decide) (fun _ => ?_) (fun c18 => absurd c18 (by rw [hJ.1.2.2.1, hwr]; decide))
        exact fin wr p2 pd v dv h hJ.1 hJ.2.2.1 hJ.2.2.2.2.1 (pd_10 hJ.2.2.2.2.1 hJ.2.2.2.1) (fun w2 e2 => ⟨_, p2, wr, _, rfl, e2, hJ.2.1, hJ.2.2.2.2.2.1, fun z => by rw [hwr] at z; cases z⟩)
      · replace hwr : wr = false := by cases wr; rfl; exact absurd rfl hwr
        have hbt : btO (u.drop p2) = none := by rw [List.drop_eq_nil_of_le (by have := he hwr; omega)]; exact bt_nil
        refine v_aload_n X (dk D_Rf_operands 8 rfl) rfl ?_
        refine v_getI X (dk D_Rf_operands 9 rfl) F_Rf_343 rfl rfl (hSh.lt (by decide)) ?_
        refine v_if_ne (tgt := 134) X (dk D_Rf_operands 10 rfl) (by decide) (fun c18 => absurd (by rw [hJ.1.2.2.1, hwr]; rfl) c18) (fun _ => ?_)
        refine v_aload_n X (dk D_Rf_operands 11 rfl) rfl ?_
        refine v_invV (As := []) (st := []) X (r_operator l q hSh hJ.1.2.1) (dk D_Rf_operands 12 rfl) G_Rf_369 K_Rf_operator V_Rf_operator rfl rfl (hSh.lt (by decide)) rfl rfl (Nat.le_of_ble_eq_true rfl) (by dsimp only [rmT]; omega) (by dsimp only [rmT]; omega) (Nat.le_of_ble_eq_true rfl) (Nat.le_of_ble_eq_true rfl) ?_
        rintro v1 ws ⟨rfl, hws⟩
        rw [hws, opN_none hbt]
        show Vv _ _ _ _ _ _ _ _ _ _ _ _ _ _ _ [.int 0] (0, 0, h)
        refine v_if_le (tgt := 134) X (dk D_Rf_operands 13 rfl) (by decide) (fun _ => ?_) (fun c25 => absurd (by decide) c25)
        exact fin wr p2 pd v dv h hJ.1 hJ.2.2.1 hJ.2.2.2.2.1 (pd_10 hJ.2.2.2.2.1 hJ.2.2.2.1) (fun w2 e2 => ⟨_, p2, wr, _, rfl, e2, hJ.2.1, hJ.2.2.2.2.2.1, fun z => ⟨(hJ.2.2.2.2.2.2 z).1, (hJ.2.2.2.2.2.2 z).2.1, hbt, hsp, fun vs ws e1 e3 => ⟨_, _, _, (hJ.2.2.2.2.2.2 z).2.2 vs ws e1 e3, by rw [rck_stl (by decide) e3 pd v dv hJ.2.2.2.2.1, stl_1 pd v dv hJ.2.2.2.2.1]; rfl⟩⟩⟩)
    | succ e ih =>
      intro v p2 h pd wr dv he hJ hsp
      have hSh := hJ.1.1.S hS
      by_cases hwr : wr = true
      · skip
        refine v_aload_n X (dk D_Rf_operands 8 rfl) rfl ?_
        refine v_getI X (dk D_Rf_operands 9 rfl) F_Rf_343 rfl rfl (hSh.lt (by decide)) ?_
        refine v_if_ne (tgt := 134) X (dk D_Rf_operands 10 rfl) (by decide) (fun _ => ?_) (fun c18 => absurd c18 (by rw [hJ.1.2.2.1, hwr]; decide))
        exact fin wr p2 pd v dv h hJ.1 hJ.2.2.1 hJ.2.2.2.2.1 (pd_10 hJ.2.2.2.2.1 hJ.2.2.2.1) (fun w2 e2 => ⟨_, p2, wr, _, rfl, e2, hJ.2.1, hJ.2.2.2.2.2.1, fun z => by rw [hwr] at z; cases z⟩)
      replace hwr : wr = false := by cases wr; rfl; exact absurd rfl hwr
      have hpl := (hJ.2.2.2.2.2.2 hwr).2.1
      have hst9 := hJ.1.2.1.2.2.2.1
      cases hbt : btO (u.drop p2) with
      | none =>
        refine v_aload_n X (dk D_Rf_operands 8 rfl) rfl ?_
        refine v_getI X (dk D_Rf_operands 9 rfl) F_Rf_343 rfl rfl (hSh.lt (by decide)) ?_
        refine v_if_ne (tgt := 134) X (dk D_Rf_operands 10 rfl) (by decide) (fun c18 => absurd (by rw [hJ.1.2.2.1, hwr]; rfl) c18) (fun _ => ?_)
        refine v_aload_n X (dk D_Rf_operands 11 rfl) rfl ?_
        refine v_invV (As := []) (st := []) X (r_operator l q hSh hJ.1.2.1) (dk D_Rf_operands 12 rfl) G_Rf_369 K_Rf_operator V_Rf_operator rfl rfl (hSh.lt (by decide)) rfl rfl (Nat.le_of_ble_eq_true rfl) (by dsimp only [rmT]; omega) (by dsimp only [rmT]; omega) (Nat.le_of_ble_eq_true rfl) (Nat.le_of_ble_eq_true rfl) ?_
        rintro v1 ws ⟨rfl, hws⟩
        rw [hws, opN_none hbt]
        show Vv _ _ _ _ _ _ _ _ _ _ _ _ _ _ _ [.int 0] (0, 0, h)
        refine v_if_le (tgt := 134) X (dk D_Rf_operands 13 rfl) (by decide) (fun _ => ?_) (fun c25 => absurd (by decide) c25)
        exact fin wr p2 pd v dv h hJ.1 hJ.2.2.1 hJ.2.2.2.2.1 (pd_10 hJ.2.2.2.2.1 hJ.2.2.2.1) (fun w2 e2 => ⟨_, p2, wr, _, rfl, e2, hJ.2.1, hJ.2.2.2.2.2.1, fun z => ⟨(hJ.2.2.2.2.2.2 z).1, (hJ.2.2.2.2.2.2 z).2.1, hbt, hsp, fun vs ws e1 e3 => ⟨_, _, _, (hJ.2.2.2.2.2.2 z).2.2 vs ws e1 e3, by rw [rck_stl (by decide) e3 pd v dv hJ.2.2.2.2.1, stl_1 pd v dv hJ.2.2.2.2.1]; rfl⟩⟩⟩)
      | some k =>
        have hk := (btO_lt hbt).1
        have hoc := oc_lt k hk
        have hpr : (sgO k).length ≤ (u.drop p2).length := (of_decide_eq_true (btO_lt hbt).2).1
        rw [List.length_drop] at hpr
        by_cases h2 : (sgO k).length = 2
        · have hlen := h2
          refine v_aload_n X (dk D_Rf_operands 8 rfl) rfl ?_
          refine v_getI X (dk D_Rf_operands 9 rfl) F_Rf_343 rfl rfl (hSh.lt (by decide)) ?_
          refine v_if_ne (tgt := 134) X (dk D_Rf_operands 10 rfl) (by decide) (fun c18 => absurd (by rw [hJ.1.2.2.1, hwr]; rfl) c18) (fun _ => ?_)
          refine v_aload_n X (dk D_Rf_operands 11 rfl) rfl ?_
          refine v_invV (As := []) (st := []) X (r_operator l q hSh hJ.1.2.1) (dk D_Rf_operands 12 rfl) G_Rf_369 K_Rf_operator V_Rf_operator rfl rfl (hSh.lt (by decide)) rfl rfl (Nat.le_of_ble_eq_true rfl) (by dsimp only [rmT]; omega) (by dsimp only [rmT]; omega) (Nat.le_of_ble_eq_true rfl) (Nat.le_of_ble_eq_true rfl) ?_
          rintro v1 ws ⟨rfl, hws⟩
          rw [hws, opN_some hbt]
          show Vv _ _ _ _ _ _ _ _ _ _ _ _ _ _ _ [.int (nI (oc k))] (0, 0, h)
          refine v_if_le (tgt := 134) X (dk D_Rf_operands 13 rfl) (by decide) (fun c25 => absurd c25 (fun z => absurd ((nI_leI (b := 0) (by omega) (by decide)).mp z) (by omega))) (fun _ => ?_)
          refine v_aload_n X (dk D_Rf_operands 14 rfl) rfl ?_
          refine v_invV (As := []) (st := []) X (r_operator l q hSh hJ.1.2.1) (dk D_Rf_operands 15 rfl) G_Rf_369 K_Rf_operator V_Rf_operator rfl rfl (hSh.lt (by decide)) rfl rfl (Nat.le_of_ble_eq_true rfl) (by dsimp only [rmT]; omega) (by dsimp only [rmT]; omega) (Nat.le_of_ble_eq_true rfl) (Nat.le_of_ble_eq_true rfl) ?_
          rintro v1 ws ⟨rfl, hws⟩
          rw [hws, opN_some hbt]
          show Vv _ _ _ _ _ _ _ _ _ _ _ _ _ _ _ [.int (nI (oc k))] (0, 0, h)
          refine v_istore_n (lb := [some (.ref 1003), some (.int (nI m)), some (.int v), some (.int (nI (oc k)))]) X (dk D_Rf_operands 16 rfl) (by decide) rfl ?_
          refine v_aload_n X (dk D_Rf_operands 17 rfl) rfl ?_
          refine v_aload_n X (dk D_Rf_operands 18 rfl) rfl ?_
          refine v_getI X (dk D_Rf_operands 19 rfl) F_Rf_334 rfl rfl (hSh.lt (by decide)) ?_
          rw [hJ.1.2.1.1]
          refine v_iload_n X (dk D_Rf_operands 20 rfl) rfl ?_
          refine v_invS (As := [.int (nI (oc k))]) (st := [.int (nI (st + p2)), .ref 1003]) X (r_isLong l q (k := k) (g := h) hk) (dk D_Rf_operands 21 rfl) G_Rf_372 K_Rf_isLong S_Rf_isLong rfl rfl (Nat.le_of_ble_eq_true rfl) (by dsimp only [rmT]; omega) (by dsimp only [rmT]; omega) (Nat.le_of_ble_eq_true rfl) (Nat.le_of_ble_eq_true rfl) ?_
          rintro v1 ws ⟨rfl, hws⟩
          rw [hws, if_pos h2]
          show Vv _ _ _ _ _ _ _ _ _ _ _ _ _ _ _ [.int 1, .int (nI (st + p2)), .ref 1003] (0, 0, h)
          refine v_if_eq (tgt := 49) X (dk D_Rf_operands 22 rfl) (by decide) (fun c42 => absurd c42 (by decide)) (fun _ => ?_)
          refine v_iconst (v := 2) X (dk D_Rf_operands 23 rfl) (by decide) ?_
          refine v_goto (tgt := 50) X (dk D_Rf_operands 24 rfl) (by decide) ?_
          refine v_iadd X (dk D_Rf_operands 26 rfl) ?_
          rw [show nI (st + p2) + 2 = nI (st + (p2 + 2)) from by rw [show (2 : Int32) = nI 2 from rfl, nI_add, Nat.add_assoc]]
          refine v_putI X (dk D_Rf_operands 27 rfl) F_Rf_334 CK_Rf rfl rfl (hSh.lt (by decide)) rfl rfl ?_
          exact sett k (p2 + 2) hk (by omega) pd v dv _ ((hwr ▸ hJ.1).at_ (p2 + 2) (by omega)) (pdW_kp hJ.2.2.1 (fun j _ => ⟨gI_na (by decide), gI_na (by decide)⟩)) hJ.2.2.2.2.1 hJ.2.2.2.1 (fun pd1 v1 dv1 hst x p4 wr4 dv4 h4 k1 k2 k3 k4 k5 p3 k6 => ih x p4 h4 ((k, v1) :: pd1) wr4 dv4 (fun z => by have := (k5 z).1; have := he hwr; omega) (OJ_step hJ hwr hbt hk hlen hst k1 k2 k3 k4 k5) (by rw [k6]; exact skB_ns _))
        · have hlen : (sgO k).length = 1 := (sgO_len k hk).resolve_right h2
          refine v_aload_n X (dk D_Rf_operands 8 rfl) rfl ?_
          refine v_getI X (dk D_Rf_operands 9 rfl) F_Rf_343 rfl rfl (hSh.lt (by decide)) ?_
          refine v_if_ne (tgt := 134) X (dk D_Rf_operands 10 rfl) (by decide) (fun c18 => absurd (by rw [hJ.1.2.2.1, hwr]; rfl) c18) (fun _ => ?_)
          refine v_aload_n X (dk D_Rf_operands 11 rfl) rfl ?_
          refine v_invV (As := []) (st := []) X (r_operator l q hSh hJ.1.2.1) (dk D_Rf_operands 12 rfl) G_Rf_369 K_Rf_operator V_Rf_operator rfl rfl (hSh.lt (by decide)) rfl rfl (Nat.le_of_ble_eq_true rfl) (by dsimp only [rmT]; omega) (by dsimp only [rmT]; omega) (Nat.le_of_ble_eq_true rfl) (Nat.le_of_ble_eq_true rfl) ?_
          rintro v1 ws ⟨rfl, hws⟩
          rw [hws, opN_some hbt]
          show Vv _ _ _ _ _ _ _ _ _ _ _ _ _ _ _ [.int (nI (oc k))] (0, 0, h)
          refine v_if_le (tgt := 134) X (dk D_Rf_operands 13 rfl) (by decide) (fun c25 => absurd c25 (fun z => absurd ((nI_leI (b := 0) (by omega) (by decide)).mp z) (by omega))) (fun _ => ?_)
          refine v_aload_n X (dk D_Rf_operands 14 rfl) rfl ?_
          refine v_invV (As := []) (st := []) X (r_operator l q hSh hJ.1.2.1) (dk D_Rf_operands 15 rfl) G_Rf_369 K_Rf_operator V_Rf_operator rfl rfl (hSh.lt (by decide)) rfl rfl (Nat.le_of_ble_eq_true rfl) (by dsimp only [rmT]; omega) (by dsimp only [rmT]; omega) (Nat.le_of_ble_eq_true rfl) (Nat.le_of_ble_eq_true rfl) ?_
          rintro v1 ws ⟨rfl, hws⟩
          rw [hws, opN_some hbt]
          show Vv _ _ _ _ _ _ _ _ _ _ _ _ _ _ _ [.int (nI (oc k))] (0, 0, h)
          refine v_istore_n (lb := [some (.ref 1003), some (.int (nI m)), some (.int v), some (.int (nI (oc k)))]) X (dk D_Rf_operands 16 rfl) (by decide) rfl ?_
          refine v_aload_n X (dk D_Rf_operands 17 rfl) rfl ?_
          refine v_aload_n X (dk D_Rf_operands 18 rfl) rfl ?_
          refine v_getI X (dk D_Rf_operands 19 rfl) F_Rf_334 rfl rfl (hSh.lt (by decide)) ?_
          rw [hJ.1.2.1.1]
          refine v_iload_n X (dk D_Rf_operands 20 rfl) rfl ?_
          refine v_invS (As := [.int (nI (oc k))]) (st := [.int (nI (st + p2)), .ref 1003]) X (r_isLong l q (k := k) (g := h) hk) (dk D_Rf_operands 21 rfl) G_Rf_372 K_Rf_isLong S_Rf_isLong rfl rfl (Nat.le_of_ble_eq_true rfl) (by dsimp only [rmT]; omega) (by dsimp only [rmT]; omega) (Nat.le_of_ble_eq_true rfl) (Nat.le_of_ble_eq_true rfl) ?_
          rintro v1 ws ⟨rfl, hws⟩
          rw [hws, if_neg h2]
          show Vv _ _ _ _ _ _ _ _ _ _ _ _ _ _ _ [.int 0, .int (nI (st + p2)), .ref 1003] (0, 0, h)
          refine v_if_eq (tgt := 49) X (dk D_Rf_operands 22 rfl) (by decide) (fun _ => ?_) (fun c42 => absurd rfl c42)
          refine v_iconst (v := 1) X (dk D_Rf_operands 25 rfl) (by decide) ?_
          refine v_iadd X (dk D_Rf_operands 26 rfl) ?_
          rw [show nI (st + p2) + 1 = nI (st + (p2 + 1)) from by rw [show (1 : Int32) = nI 1 from rfl, nI_add, Nat.add_assoc]]
          refine v_putI X (dk D_Rf_operands 27 rfl) F_Rf_334 CK_Rf rfl rfl (hSh.lt (by decide)) rfl rfl ?_
          exact sett k (p2 + 1) hk (by omega) pd v dv _ ((hwr ▸ hJ.1).at_ (p2 + 1) (by omega)) (pdW_kp hJ.2.2.1 (fun j _ => ⟨gI_na (by decide), gI_na (by decide)⟩)) hJ.2.2.2.2.1 hJ.2.2.2.1 (fun pd1 v1 dv1 hst x p4 wr4 dv4 h4 k1 k2 k3 k4 k5 p3 k6 => ih x p4 h4 ((k, v1) :: pd1) wr4 dv4 (fun z => by have := (k5 z).1; have := he hwr; omega) (OJ_step hJ hwr hbt hk hlen hst k1 k2 k3 k4 k5) (by rw [k6]; exact skB_ns _))
  refine v_aload_n X (dk D_Rf_operands 0 rfl) rfl ?_
  refine v_getI X (dk D_Rf_operands 1 rfl) F_Rf_353 rfl rfl (hS.lt (by decide)) ?_
  rw [hK0.2.2.2.2.2.1]
  refine v_istore_n (lb := [some (.ref 1003), some (.int (nI m)), none, none]) X (dk D_Rf_operands 2 rfl) (by decide) rfl ?_
  refine v_aload_n X (dk D_Rf_operands 3 rfl) rfl ?_
  refine v_invV (As := []) (st := []) X (hU g st p m u dv0 hS hK0 hp (by omega)) (dk D_Rf_operands 4 rfl) G_Rf_363 K_Rf_unary V_Rf_unary rfl rfl (hS.lt (by decide)) rfl rfl (Nat.le_of_ble_eq_true rfl) (by dsimp only [rmT]; omega) (by dsimp only [rmT]; omega) (Nat.le_of_ble_eq_true rfl) (Nat.le_of_ble_eq_true rfl) ?_
  rintro v1 w1 ⟨x, p3, wr3, dv3, rfl, hK3, hb3, hw3, hn3⟩
  have S3 := hK3.1.S hS
  show Vv _ _ _ _ _ _ _ _ _ _ _ _ _ _ _ [.int x] (0, 0, w1.2.2)
  refine v_istore_n (lb := [some (.ref 1003), some (.int (nI m)), some (.int x), none]) X (dk D_Rf_operands 5 rfl) (by decide) rfl ?_
  refine v_aload_n X (dk D_Rf_operands 6 rfl) rfl ?_
  refine v_invV (As := []) (st := []) X (r_skipBlanks l q S3 hK3.2.1) (dk D_Rf_operands 7 rfl) G_Rf_366 K_Rf_skipBlanks V_Rf_skipBlanks rfl rfl (S3.lt (by decide)) rfl rfl (Nat.le_of_ble_eq_true rfl) (by dsimp only [rmT]; omega) (by dsimp only [rmT]; omega) (Nat.le_of_ble_eq_true rfl) (Nat.le_of_ble_eq_true rfl) ?_
  rintro v2 w2 ⟨rfl, p4, b1, b2, b3, b4, b5⟩
  show Vv _ _ _ _ _ _ _ _ _ _ _ _ _ _ _ [] (0, 0, w2.2.2)
  exact loop u.length x p4 w2.2.2 [] wr3 dv3 (fun _ => by omega) ⟨hK3.sk b1 b2, by omega, trivial, trivial, (fun y hy => by cases hy), fun z vs ws e1 _ => hw3 z vs ws e1, fun z => ⟨by have := (hn3 z).1; omega, by have := (hn3 z).2.1; omega, fun vs ws e1 e2 => by rw [(hn3 z).2.2 vs ws e1, show evU (u.drop p3) x vs ws dv3 = (u.drop p3, x :: vs, ws, false, dv3) from evU_11 (pd := []) (fun y hy => by cases hy) e2, evR_sk, ← b5]; rfl⟩⟩ (by rw [b5]; exact skB_ns _)
