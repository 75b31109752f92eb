/-! what an argument is: a name, quotes, a number; the same as another -/
def isNm (a : List Int32) : Bool := decide (0 < a.length ∧ isLet (a.getD 0 0 &&& 255) = true ∧ ∀ j, j < a.length → 0 < j → isNam (a.getD j 0 &&& 255) = true)
def qtB (b : Int32) : Bool := decide (¬ isNam b = true ∧ ¬ isSpc b = true ∧ ¬ b = 35 ∧ ¬ b = 40 ∧ ¬ b = 41 ∧ ¬ b = 44)
def isQt (a : List Int32) : Bool := decide (0 < a.length ∧ a.length < 5 ∧ ∀ j, j < a.length → qtB (a.getD j 0 &&& 255) = true)
def nmD : List Int32 → Int32 → Option Int32
  | [], v => some v
  | b :: s, v => if isDig (b &&& 255) = true then nmD s (v * 10 + ((b &&& 255) - 48)) else none
def nmX (a : List Int32) : Option Int32 := if a = [] then some 0 else if a.getD 0 0 &&& 255 = 45 then (if a.tail = [] ∨ 9 < a.tail.length then none else (nmD a.tail 0).map (fun v => -v)) else if 9 < a.length then none else nmD a 0
theorem dig_nI {b : Int32} (h : isDig b = true) : ∃ d, d < 10 ∧ b - 48 = nI d := by
  obtain ⟨h1, h2⟩ := of_decide_eq_true h
  obtain ⟨j, hj, rfl⟩ := nI_of2 (M := 57) (n := 57) rfl (fun z => h1 (Int32.lt_trans z (by decide))) (Int32.not_lt.mp h2)
  have h3 : 48 ≤ j := Decidable.byContradiction (fun z => h1 (nI_lt (b := 48) (by omega) (by decide)))
  exact ⟨j - 48, by omega, pk_sub (b := 48) (by omega)⟩
theorem nmD_nI : ∀ (s : List Int32) (m k : Nat), m < 10 ^ k → ∀ v, nmD s (nI m) = some v → ∃ x, x < 10 ^ (k + s.length) ∧ v = nI x
  | [], m, k, hm, v, h => by cases h; exact ⟨m, by simpa using hm, rfl⟩
  | b :: s, m, k, hm, v, h => by
    rw [nmD] at h
    split at h
    · rename_i hd
      obtain ⟨d, hd1, hd2⟩ := dig_nI hd
      rw [hd2, show nI m * 10 + nI d = nI (m * 10 + d) from by rw [show (10 : Int32) = nI 10 from rfl, show nI m * nI 10 = nI (m * 10) from (Int32.ofNat_mul m 10).symm, nI_add]] at h
      obtain ⟨x, h1, h2⟩ := nmD_nI s (m * 10 + d) (k + 1) (by rw [Nat.pow_succ]; omega) v h
      exact ⟨x, by rw [List.length_cons, show k + (s.length + 1) = k + 1 + s.length by omega]; exact h1, h2⟩
    · cases h
theorem nmX_ne {a : List Int32} {v : Int32} (h : nmX a = some v) : (∃ x, x < 1000000000 ∧ v = nI x) ∨ ∃ x, x < 1000000000 ∧ v = -nI x := by
  have key : ∀ (s : List Int32) (w : Int32), s.length ≤ 9 → nmD s 0 = some w → ∃ x, x < 1000000000 ∧ w = nI x := fun s w hl hw => by
    obtain ⟨x, h1, h2⟩ := nmD_nI s 0 0 (by decide) w hw
    exact ⟨x, Nat.lt_of_lt_of_le h1 (by rw [Nat.zero_add, show (1000000000 : Nat) = 10 ^ 9 by decide]; exact Nat.pow_le_pow_right (by decide) hl), h2⟩
  rw [nmX] at h
  split at h
  · cases h; exact Or.inl ⟨0, by decide, rfl⟩
  · split at h
    · split at h
      · cases h
      · rename_i hn
        cases hd : nmD a.tail 0 with
        | none => rw [hd] at h; cases h
        | some w =>
          rw [hd] at h
          cases h
          obtain ⟨x, h1, h2⟩ := key _ _ (by omega) hd
          exact Or.inr ⟨x, h1, by rw [h2]⟩
    · split at h
      · cases h
      · exact Or.inl (key _ _ (by omega) h)
theorem nmX_no {a : List Int32} : (nmX a).getD (-2147483648) = -2147483648 ↔ nmX a = none := by
  refine ⟨fun h => ?_, fun h => by rw [h]; rfl⟩
  rcases on_or (nmX a) with e | ⟨v, e⟩
  · exact e
  · rw [e, Option.getD_some] at h
    rcases nmX_ne e with ⟨x, h1, h2⟩ | ⟨x, h1, h2⟩
    · rw [h2] at h
      have := congrArg Int32.toInt h
      rw [nI_toInt (by omega)] at this
      have e2 : (-2147483648 : Int32).toInt = -2147483648 := by decide
      omega
    · rw [h2] at h
      have : nI x = -(-2147483648) := by rw [← h, Int32.neg_neg]
      have := congrArg Int32.toInt this
      rw [nI_toInt (by omega)] at this
      have e2 : (-(-2147483648 : Int32)).toInt = -2147483648 := by decide
      omega
theorem sl_get {xs : List Int32} {st n k : Nat} (h : k < n) : ((xs.drop st).take n).getD k 0 = xs.getD (st + k) 0 := by
  rw [List.getD_eq_getElem?_getD, List.getD_eq_getElem?_getD, List.getElem?_take, if_pos h, List.getElem?_drop]
theorem sl_len {xs : List Int32} {st n : Nat} (h : st + n ≤ xs.length) : ((xs.drop st).take n).length = n := by
  rw [List.length_take, List.length_drop]; omega
theorem nI_ge1 {n : Nat} (h : ¬ nI n < 1) : 1 ≤ n := Decidable.byContradiction (fun e => h (by rw [show n = 0 by omega]; decide))
set_option maxHeartbeats 4000000 in
set_option maxRecDepth 100000 in
theorem k_isName (l : Launch) (q : ev_T) {st n : Nat} {xs : List Int32} {ov : Bool} {g : mu_T} (hS : Shp g) (hY : RB g 18 19 16384 xs ov) (hsn : st + n ≤ xs.length) : Ctr l q M_Mi_isName 2 [.ref 0, .int (nI st), .int (nI n)] (0, 0, g) (fun v w => v = some (.int (if isNm ((xs.drop st).take n) = true then 1 else 0)) ∧ w.2.2 = g) := by
  have hyn := hY.2.1
  have hal := sl_len (xs := xs) hsn
  refine Ctr.mk (lb := [some (.ref 0), some (.int (nI st)), some (.int (nI n)), none]) (by decide +kernel) (Nat.le_of_ble_eq_true rfl) rfl rfl ?_
  intro pp ee ss mm aa bb mt cd X hrt hlk hnm
  have loop : isLet (xs.getD st 0 &&& 255) = true → ∀ (d k : Nat), k + d = n → 0 < k → (∀ j, j < k → 0 < j → isNam (((xs.drop st).take n).getD j 0 &&& 255) = true) → Vv pp l ee (rmT 2 0 0) ss mm aa bb mt cd 4 q (MQ bb (Qw q (fun v w => v = some (.int (if isNm ((xs.drop st).take n) = true then 1 else 0)) ∧ w.2.2 = g)) aa ss 0 0 (fun a => q.1 ≤ a)) 26 [some (.ref 0), some (.int (nI st)), some (.int (nI n)), some (.int (nI k))] [] (0, 0, g) := by
    intro h1 d
    induction d with
    | zero =>
      intro k hkd hk0 hm
      refine v_iload_n X (dk D_Mi_isName 14 rfl) rfl ?_
      refine v_iload_n X (dk D_Mi_isName 15 rfl) rfl ?_
      refine v_icmp_ge (tgt := 58) X (dk D_Mi_isName 16 rfl) (by decide) (fun _ => ?_) (fun c28 => absurd (nI_le (by omega) (by omega)) c28)
      refine v_iconst (v := 1) X (dk D_Mi_isName 30 rfl) (by decide) ?_
      exact v_zret X hlk hrt rfl (dk D_Mi_isName 31 rfl) ⟨by rw [if_pos (show isNm ((xs.drop st).take n) = true from decide_eq_true ⟨by rw [hal]; omega, by rw [sl_get (by omega)]; exact h1, fun j hj h0 => hm j (by rw [hal] at hj; omega) h0⟩)], rfl⟩
    | succ d ih =>
      intro k hkd hk0 hm
      refine v_iload_n X (dk D_Mi_isName 14 rfl) rfl ?_
      refine v_iload_n X (dk D_Mi_isName 15 rfl) rfl ?_
      refine v_icmp_ge (tgt := 58) X (dk D_Mi_isName 16 rfl) (by decide) (fun c28 => absurd c28 (nI_ge (by omega) (by omega))) (fun _ => ?_)
      refine v_aload_n X (dk D_Mi_isName 17 rfl) rfl ?_
      refine v_getF X (dk D_Mi_isName 18 rfl) F_Mi_37 rfl rfl (hS.lt (by decide)) (hS.2 0 4) ?_
      refine v_getF X (dk D_Mi_isName 19 rfl) F_Mi_219 rfl rfl (hS.lt (by decide)) (hS.2 17 0) ?_
      refine v_iload_n X (dk D_Mi_isName 20 rfl) rfl ?_
      refine v_iload_n X (dk D_Mi_isName 21 rfl) rfl ?_
      refine v_iadd X (dk D_Mi_isName 22 rfl) ?_
      rw [nI_add]
      refine v_invV (As := [.int (nI (st + k))]) (st := []) X (k_at l q hY) (dk D_Mi_isName 23 rfl) G_Mi_119 K_By_at V_By_at rfl rfl (hS.lt (by decide)) rfl rfl (Nat.le_of_ble_eq_true rfl) (Nat.le_of_ble_eq_true rfl) (Nat.le_of_ble_eq_true rfl) (Nat.le_of_ble_eq_true rfl) (Nat.le_of_ble_eq_true rfl) ?_
      rintro v ws ⟨rfl, hws⟩
      rw [hws, atL_nI (show (st + k) < xs.length by omega) (by omega)]
      show Vv _ _ _ _ _ _ _ _ _ _ _ _ _ _ _ [.int (xs.getD (st + k) 0 &&& 255)] (0, 0, g)
      refine v_invS (As := [.int (xs.getD (st + k) 0 &&& 255)]) (st := []) X (k_isNamePart l q (b := (xs.getD (st + k) 0 &&& 255)) (g := g)) (dk D_Mi_isName 24 rfl) G_Mi_352 K_Mi_isNamePart S_Mi_isNamePart rfl rfl (Nat.le_of_ble_eq_true rfl) (Nat.le_of_ble_eq_true rfl) (Nat.le_of_ble_eq_true rfl) (Nat.le_of_ble_eq_true rfl) (Nat.le_of_ble_eq_true rfl) ?_
      rintro v ws ⟨rfl, hws⟩
      rw [hws]
      show Vv _ _ _ _ _ _ _ _ _ _ _ _ _ _ _ [.int (if isNam (xs.getD (st + k) 0 &&& 255) = true then 1 else 0)] (0, 0, g)
      refine v_if_ne (tgt := 52) X (dk D_Mi_isName 25 rfl) (by decide) (fun c47 => ?_) (fun c47 => ?_)
      · refine v_iinc (v := nI (k + 1)) (lb := [some (.ref 0), some (.int (nI st)), some (.int (nI n)), some (.int (nI (k + 1)))]) X (dk D_Mi_isName 28 rfl) rfl (nI_1 k) (by decide) rfl ?_
        refine v_goto (tgt := 26) X (dk D_Mi_isName 29 rfl) (by decide) ?_
        exact ih (k + 1) (by omega) (by omega) (fun j hj h0 => by by_cases e : j = k; rw [e, sl_get (by omega)]; exact Decidable.byContradiction (fun h => c47 (if_neg h)); exact hm j (by omega) h0)
      · refine v_iconst (v := 0) X (dk D_Mi_isName 26 rfl) (by decide) ?_
        exact v_zret X hlk hrt rfl (dk D_Mi_isName 27 rfl) ⟨by rw [if_neg (fun e => absurd c47 (by rw [if_pos (by have := (of_decide_eq_true e).2.2 k (by rw [hal]; omega) (by omega); rw [sl_get (by omega)] at this; exact this)]; decide))], rfl⟩
  refine v_iload_n X (dk D_Mi_isName 0 rfl) rfl ?_
  refine v_iconst (v := 1) X (dk D_Mi_isName 1 rfl) (by decide) ?_
  refine v_icmp_lt (tgt := 22) X (dk D_Mi_isName 2 rfl) (by decide) (fun c2 => ?_) (fun c2 => ?_)
  · refine v_iconst (v := 0) X (dk D_Mi_isName 10 rfl) (by decide) ?_
    exact v_zret X hlk hrt rfl (dk D_Mi_isName 11 rfl) ⟨by first | rw [if_neg (fun e => absurd c2 (nI_nlt (b := 1) (by have := (of_decide_eq_true e).1; rw [hal] at this; omega) (by omega)))] | rw [if_neg (fun e => absurd c19 (by rw [if_pos (by have := (of_decide_eq_true e).2.1; rw [sl_get (by have := nI_ge1 c2; omega)] at this; exact this)]; decide))], rfl⟩
  · have hn1 := nI_ge1 c2
    refine v_aload_n X (dk D_Mi_isName 3 rfl) rfl ?_
    refine v_getF X (dk D_Mi_isName 4 rfl) F_Mi_37 rfl rfl (hS.lt (by decide)) (hS.2 0 4) ?_
    refine v_getF X (dk D_Mi_isName 5 rfl) F_Mi_219 rfl rfl (hS.lt (by decide)) (hS.2 17 0) ?_
    refine v_iload_n X (dk D_Mi_isName 6 rfl) rfl ?_
    refine v_invV (As := [.int (nI st)]) (st := []) X (k_at l q hY) (dk D_Mi_isName 7 rfl) G_Mi_119 K_By_at V_By_at rfl rfl (hS.lt (by decide)) rfl rfl (Nat.le_of_ble_eq_true rfl) (Nat.le_of_ble_eq_true rfl) (Nat.le_of_ble_eq_true rfl) (Nat.le_of_ble_eq_true rfl) (Nat.le_of_ble_eq_true rfl) ?_
    rintro v ws ⟨rfl, hws⟩
    rw [hws, atL_nI (show st < xs.length by omega) (by omega)]
    show Vv _ _ _ _ _ _ _ _ _ _ _ _ _ _ _ [.int (xs.getD st 0 &&& 255)] (0, 0, g)
    refine v_invS (As := [.int (xs.getD st 0 &&& 255)]) (st := []) X (k_isLetter l q (b := (xs.getD st 0 &&& 255)) (g := g)) (dk D_Mi_isName 8 rfl) G_Mi_349 K_Mi_isLetter S_Mi_isLetter rfl rfl (Nat.le_of_ble_eq_true rfl) (Nat.le_of_ble_eq_true rfl) (Nat.le_of_ble_eq_true rfl) (Nat.le_of_ble_eq_true rfl) (Nat.le_of_ble_eq_true rfl) ?_
    rintro v ws ⟨rfl, hws⟩
    rw [hws]
    show Vv _ _ _ _ _ _ _ _ _ _ _ _ _ _ _ [.int (if isLet (xs.getD st 0 &&& 255) = true then 1 else 0)] (0, 0, g)
    refine v_if_ne (tgt := 24) X (dk D_Mi_isName 9 rfl) (by decide) (fun c19 => ?_) (fun c19 => ?_)
    · refine v_iconst (v := nI 1) X (dk D_Mi_isName 12 rfl) (by decide) ?_
      refine v_istore_n (lb := [some (.ref 0), some (.int (nI st)), some (.int (nI n)), some (.int (nI 1))]) X (dk D_Mi_isName 13 rfl) (by decide) rfl ?_
      exact loop (Decidable.byContradiction (fun h => c19 (if_neg h))) (n - 1) 1 (by have := nI_ge1 c2; omega) (by decide) (fun j hj h0 => by omega)
    · refine v_iconst (v := 0) X (dk D_Mi_isName 10 rfl) (by decide) ?_
      exact v_zret X hlk hrt rfl (dk D_Mi_isName 11 rfl) ⟨by first | rw [if_neg (fun e => absurd c2 (nI_nlt (b := 1) (by have := (of_decide_eq_true e).1; rw [hal] at this; omega) (by omega)))] | rw [if_neg (fun e => absurd c19 (by rw [if_pos (by have := (of_decide_eq_true e).2.1; rw [sl_get (by have := nI_ge1 c2; omega)] at this; exact this)]; decide))], rfl⟩
theorem ag_at {f : Fr} {r : List Fr} {cm : Bool} {g : mu_T} {i k : Nat} (hC : CA g (f :: r) cm) (hk : k < (f.2.1.getD i []).length) : atL (hl (f :: r)) (nI (stA f r i + k)) = (f.2.1.getD i []).getD k 0 &&& 255 := by
  have h1 := ag_le (f := f) (r := r) i
  have h2 := hC.1.2.1
  rw [atL_nI (by omega) (by omega)]
  conv => rhs; rw [← hl_slice (f := f) (r := r) i, sl_get hk]
set_option maxHeartbeats 4000000 in
set_option maxRecDepth 100000 in
theorem k_areSame (l : Launch) (q : ev_T) {i j : Nat} {f : Fr} {r : List Fr} {cm : Bool} {g : mu_T} (hS : Shp g) (hC : CA g (f :: r) cm) (hfb : ∀ x ∈ hl (f :: r), isByte x) (hi : i < 900000) (hj : j < 900000) : Ctr l q M_Mi_areSame 2 [.ref 0, .int (nI i), .int (nI j)] (0, 0, g) (fun v w => v = some (.int (if f.2.1.getD i [] = f.2.1.getD j [] then 1 else 0)) ∧ w.2.2 = g) := by
  have h1 := ag_le (f := f) (r := r) i
  have h2 := ag_le (f := f) (r := r) j
  have h3 := hC.1.2.1
  refine Ctr.mk (lb := [some (.ref 0), some (.int (nI i)), some (.int (nI j)), none, none, none, none]) (by decide +kernel) (Nat.le_of_ble_eq_true rfl) rfl rfl ?_
  intro pp ee ss mm aa bb mt cd X hrt hlk hnm
  have loop : (f.2.1.getD i []).length = (f.2.1.getD j []).length → ∀ (d k : Nat), k + d = (f.2.1.getD i []).length → (∀ m, m < k → (f.2.1.getD i []).getD m 0 = (f.2.1.getD j []).getD m 0) → Vv pp l ee (rmT 2 0 0) ss mm aa bb mt cd 7 q (MQ bb (Qw q (fun v w => v = some (.int (if f.2.1.getD i [] = f.2.1.getD j [] then 1 else 0)) ∧ w.2.2 = g)) aa ss 0 0 (fun a => q.1 ≤ a)) 46 [some (.ref 0), some (.int (nI i)), some (.int (nI j)), some (.int (nI (f.2.1.getD i []).length)), some (.int (nI (stA f r i))), some (.int (nI (stA f r j))), some (.int (nI k))] [] (0, 0, g) := by
    intro hlen d
    induction d with
    | zero =>
      intro k hkd hm
      refine v_iload X (dk D_Mi_areSame 25 rfl) rfl ?_
      refine v_iload_n X (dk D_Mi_areSame 26 rfl) rfl ?_
      refine v_icmp_ge (tgt := 93) X (dk D_Mi_areSame 27 rfl) (by decide) (fun _ => ?_) (fun c49 => absurd (nI_le (by omega) (by omega)) c49)
      refine v_iconst (v := 1) X (dk D_Mi_areSame 47 rfl) (by decide) ?_
      exact v_zret X hlk hrt rfl (dk D_Mi_areSame 48 rfl) ⟨by rw [if_pos (l_eq hlen (fun m hm2 => hm m (by omega)))], rfl⟩
    | succ d ih =>
      intro k hkd hm
      refine v_iload X (dk D_Mi_areSame 25 rfl) rfl ?_
      refine v_iload_n X (dk D_Mi_areSame 26 rfl) rfl ?_
      refine v_icmp_ge (tgt := 93) X (dk D_Mi_areSame 27 rfl) (by decide) (fun c49 => absurd c49 (nI_ge (by omega) (by omega))) (fun _ => ?_)
      refine v_aload_n X (dk D_Mi_areSame 28 rfl) rfl ?_
      refine v_getF X (dk D_Mi_areSame 29 rfl) F_Mi_37 rfl rfl (hS.lt (by decide)) (hS.2 0 4) ?_
      refine v_getF X (dk D_Mi_areSame 30 rfl) F_Mi_219 rfl rfl (hS.lt (by decide)) (hS.2 17 0) ?_
      refine v_iload X (dk D_Mi_areSame 31 rfl) rfl ?_
      refine v_iload X (dk D_Mi_areSame 32 rfl) rfl ?_
      refine v_iadd X (dk D_Mi_areSame 33 rfl) ?_
      rw [nI_add]
      refine v_invV (As := [.int (nI (stA f r i + k))]) (st := []) X (k_at l q hC.1) (dk D_Mi_areSame 34 rfl) G_Mi_119 K_By_at V_By_at rfl rfl (hS.lt (by decide)) rfl rfl (Nat.le_of_ble_eq_true rfl) (Nat.le_of_ble_eq_true rfl) (Nat.le_of_ble_eq_true rfl) (Nat.le_of_ble_eq_true rfl) (Nat.le_of_ble_eq_true rfl) ?_
      rintro v ws ⟨rfl, hws⟩
      rw [hws, ag_at (i := i) hC (by omega)]
      show Vv _ _ _ _ _ _ _ _ _ _ _ _ _ _ _ [.int ((f.2.1.getD i []).getD k 0 &&& 255)] (0, 0, g)
      refine v_aload_n X (dk D_Mi_areSame 35 rfl) rfl ?_
      refine v_getF X (dk D_Mi_areSame 36 rfl) F_Mi_37 rfl rfl (hS.lt (by decide)) (hS.2 0 4) ?_
      refine v_getF X (dk D_Mi_areSame 37 rfl) F_Mi_219 rfl rfl (hS.lt (by decide)) (hS.2 17 0) ?_
      refine v_iload X (dk D_Mi_areSame 38 rfl) rfl ?_
      refine v_iload X (dk D_Mi_areSame 39 rfl) rfl ?_
      refine v_iadd X (dk D_Mi_areSame 40 rfl) ?_
      rw [nI_add]
      refine v_invV (As := [.int (nI (stA f r j + k))]) (st := [.int ((f.2.1.getD i []).getD k 0 &&& 255)]) X (k_at l q hC.1) (dk D_Mi_areSame 41 rfl) G_Mi_119 K_By_at V_By_at rfl rfl (hS.lt (by decide)) rfl rfl (Nat.le_of_ble_eq_true rfl) (Nat.le_of_ble_eq_true rfl) (Nat.le_of_ble_eq_true rfl) (Nat.le_of_ble_eq_true rfl) (Nat.le_of_ble_eq_true rfl) ?_
      rintro v ws ⟨rfl, hws⟩
      rw [hws, ag_at (i := j) hC (by omega)]
      show Vv _ _ _ _ _ _ _ _ _ _ _ _ _ _ _ [.int ((f.2.1.getD j []).getD k 0 &&& 255), .int ((f.2.1.getD i []).getD k 0 &&& 255)] (0, 0, g)
      refine v_icmp_eq (tgt := 87) X (dk D_Mi_areSame 42 rfl) (by decide) (fun c82 => ?_) (fun c82 => ?_)
      · refine v_iinc (v := nI (k + 1)) (lb := [some (.ref 0), some (.int (nI i)), some (.int (nI j)), some (.int (nI (f.2.1.getD i []).length)), some (.int (nI (stA f r i))), some (.int (nI (stA f r j))), some (.int (nI (k + 1)))]) X (dk D_Mi_areSame 45 rfl) rfl (nI_1 k) (by decide) rfl ?_
        refine v_goto (tgt := 46) X (dk D_Mi_areSame 46 rfl) (by decide) ?_
        exact ih (k + 1) (by omega) (fun m hm2 => by by_cases e : m = k; rw [e]; exact (b255_eq (ag_byte hfb _ (getD_mem (by omega))) (ag_byte hfb _ (getD_mem (by omega)))).mp c82; exact hm m (by omega))
      · refine v_iconst (v := 0) X (dk D_Mi_areSame 43 rfl) (by decide) ?_
        exact v_zret X hlk hrt rfl (dk D_Mi_areSame 44 rfl) ⟨by rw [if_neg (fun e => c82 (by rw [e]))], rfl⟩
  refine v_aload_n X (dk D_Mi_areSame 0 rfl) rfl ?_
  refine v_getF X (dk D_Mi_areSame 1 rfl) F_Mi_37 rfl rfl (hS.lt (by decide)) (hS.2 0 4) ?_
  refine v_iload_n X (dk D_Mi_areSame 2 rfl) rfl ?_
  refine v_invV (As := [.int (nI i)]) (st := []) X (k_length l q (i := i) hS hC (by omega)) (dk D_Mi_areSame 3 rfl) G_Mi_286 K_Ca_length V_Ca_length rfl rfl (hS.lt (by decide)) rfl rfl (Nat.le_of_ble_eq_true rfl) (Nat.le_of_ble_eq_true rfl) (Nat.le_of_ble_eq_true rfl) (Nat.le_of_ble_eq_true rfl) (Nat.le_of_ble_eq_true rfl) ?_
  rintro v ws ⟨rfl, hws⟩
  rw [hws]
  show Vv _ _ _ _ _ _ _ _ _ _ _ _ _ _ _ [.int (nI (f.2.1.getD i []).length)] (0, 0, g)
  refine v_istore_n (lb := [some (.ref 0), some (.int (nI i)), some (.int (nI j)), some (.int (nI (f.2.1.getD i []).length)), none, none, none]) X (dk D_Mi_areSame 4 rfl) (by decide) rfl ?_
  refine v_iload_n X (dk D_Mi_areSame 5 rfl) rfl ?_
  refine v_aload_n X (dk D_Mi_areSame 6 rfl) rfl ?_
  refine v_getF X (dk D_Mi_areSame 7 rfl) F_Mi_37 rfl rfl (hS.lt (by decide)) (hS.2 0 4) ?_
  refine v_iload_n X (dk D_Mi_areSame 8 rfl) rfl ?_
  refine v_invV (As := [.int (nI j)]) (st := [.int (nI (f.2.1.getD i []).length)]) X (k_length l q (i := j) hS hC (by omega)) (dk D_Mi_areSame 9 rfl) G_Mi_286 K_Ca_length V_Ca_length rfl rfl (hS.lt (by decide)) rfl rfl (Nat.le_of_ble_eq_true rfl) (Nat.le_of_ble_eq_true rfl) (Nat.le_of_ble_eq_true rfl) (Nat.le_of_ble_eq_true rfl) (Nat.le_of_ble_eq_true rfl) ?_
  rintro v ws ⟨rfl, hws⟩
  rw [hws]
  show Vv _ _ _ _ _ _ _ _ _ _ _ _ _ _ _ [.int (nI (f.2.1.getD j []).length), .int (nI (f.2.1.getD i []).length)] (0, 0, g)
  refine v_icmp_eq (tgt := 23) X (dk D_Mi_areSame 10 rfl) (by decide) (fun c18 => ?_) (fun c18 => ?_)
  · refine v_aload_n X (dk D_Mi_areSame 13 rfl) rfl ?_
    refine v_getF X (dk D_Mi_areSame 14 rfl) F_Mi_37 rfl rfl (hS.lt (by decide)) (hS.2 0 4) ?_
    refine v_iload_n X (dk D_Mi_areSame 15 rfl) rfl ?_
    refine v_invV (As := [.int (nI i)]) (st := []) X (k_start l q (i := i) hS hC (by omega)) (dk D_Mi_areSame 16 rfl) G_Mi_283 K_Ca_start V_Ca_start rfl rfl (hS.lt (by decide)) rfl rfl (Nat.le_of_ble_eq_true rfl) (Nat.le_of_ble_eq_true rfl) (Nat.le_of_ble_eq_true rfl) (Nat.le_of_ble_eq_true rfl) (Nat.le_of_ble_eq_true rfl) ?_
    rintro v ws ⟨rfl, hws⟩
    rw [hws]
    show Vv _ _ _ _ _ _ _ _ _ _ _ _ _ _ _ [.int (nI (stA f r i))] (0, 0, g)
    refine v_istore (lb := [some (.ref 0), some (.int (nI i)), some (.int (nI j)), some (.int (nI (f.2.1.getD i []).length)), some (.int (nI (stA f r i))), none, none]) X (dk D_Mi_areSame 17 rfl) (by decide) rfl ?_
    refine v_aload_n X (dk D_Mi_areSame 18 rfl) rfl ?_
    refine v_getF X (dk D_Mi_areSame 19 rfl) F_Mi_37 rfl rfl (hS.lt (by decide)) (hS.2 0 4) ?_
    refine v_iload_n X (dk D_Mi_areSame 20 rfl) rfl ?_
    refine v_invV (As := [.int (nI j)]) (st := []) X (k_start l q (i := j) hS hC (by omega)) (dk D_Mi_areSame 21 rfl) G_Mi_283 K_Ca_start V_Ca_start rfl rfl (hS.lt (by decide)) rfl rfl (Nat.le_of_ble_eq_true rfl) (Nat.le_of_ble_eq_true rfl) (Nat.le_of_ble_eq_true rfl) (Nat.le_of_ble_eq_true rfl) (Nat.le_of_ble_eq_true rfl) ?_
    rintro v ws ⟨rfl, hws⟩
    rw [hws]
    show Vv _ _ _ _ _ _ _ _ _ _ _ _ _ _ _ [.int (nI (stA f r j))] (0, 0, g)
    refine v_istore (lb := [some (.ref 0), some (.int (nI i)), some (.int (nI j)), some (.int (nI (f.2.1.getD i []).length)), some (.int (nI (stA f r i))), some (.int (nI (stA f r j))), none]) X (dk D_Mi_areSame 22 rfl) (by decide) rfl ?_
    refine v_iconst (v := nI 0) X (dk D_Mi_areSame 23 rfl) (by decide) ?_
    refine v_istore (lb := [some (.ref 0), some (.int (nI i)), some (.int (nI j)), some (.int (nI (f.2.1.getD i []).length)), some (.int (nI (stA f r i))), some (.int (nI (stA f r j))), some (.int (nI 0))]) X (dk D_Mi_areSame 24 rfl) (by decide) rfl ?_
    exact loop ((nI_eq (by omega) (by omega)).mp c18) (f.2.1.getD i []).length 0 (by omega) (fun m hm => by omega)
  · refine v_iconst (v := 0) X (dk D_Mi_areSame 11 rfl) (by decide) ?_
    exact v_zret X hlk hrt rfl (dk D_Mi_areSame 12 rfl) ⟨by rw [if_neg (fun e => c18 (by rw [e]))], rfl⟩
set_option maxHeartbeats 4000000 in
set_option maxRecDepth 100000 in
theorem k_number (l : Launch) (q : ev_T) {i : Nat} {f : Fr} {r : List Fr} {cm : Bool} {g : mu_T} (hS : Shp g) (hC : CA g (f :: r) cm) (hi : i < 900000) : Ctr l q M_Mi_number 2 [.ref 0, .int (nI i)] (0, 0, g) (fun v w => v = some (.int ((nmX (f.2.1.getD i [])).getD (-2147483648))) ∧ w.2.2 = g) := by
  have h1 := ag_le (f := f) (r := r) i
  have h3 := hC.1.2.1
  refine Ctr.mk (lb := [some (.ref 0), some (.int (nI i)), none, none, none, none, none]) (by decide +kernel) (Nat.le_of_ble_eq_true rfl) rfl rfl ?_
  intro pp ee ss mm aa bb mt cd X hrt hlk hnm
  have loop : ∀ (bl : Bool) (d k : Nat) (v : Int32), k + d = (f.2.1.getD i []).length → nmX (f.2.1.getD i []) = (nmD ((f.2.1.getD i []).drop k) v).map (fun v => (if bl = true then -v else v)) → Vv pp l ee (rmT 2 0 0) ss mm aa bb mt cd 7 q (MQ bb (Qw q (fun v w => v = some (.int ((nmX (f.2.1.getD i [])).getD (-2147483648))) ∧ w.2.2 = g)) aa ss 0 0 (fun a => q.1 ≤ a)) 78 [some (.ref 0), some (.int (nI i)), some (.int (nI (stA f r i + k))), some (.int (nI (stA f r i + (f.2.1.getD i []).length))), some (.int (if bl = true then 1 else 0)), some (.int v), none] [] (0, 0, g) := by
    intro bl d
    induction d with
    | zero =>
      intro k v hkd hres
      rcases (show bl = true ∨ bl = false by cases bl <;> simp) with hbl | hbl
      · refine v_iload_n X (dk D_Mi_number 43 rfl) rfl ?_
        refine v_iload_n X (dk D_Mi_number 44 rfl) rfl ?_
        refine v_icmp_ge (tgt := 127) X (dk D_Mi_number 45 rfl) (by decide) (fun _ => ?_) (fun c80 => absurd (nI_le (by omega) (by omega)) c80)
        refine v_iload X (dk D_Mi_number 67 rfl) rfl ?_
        refine v_if_eq (tgt := 138) X (dk D_Mi_number 68 rfl) (by decide) (fun c129 => absurd c129 (by rw [hbl]; decide)) (fun _ => ?_)
        refine v_iload X (dk D_Mi_number 69 rfl) rfl ?_
        refine v_ineg X (dk D_Mi_number 70 rfl) ?_
        refine v_goto (tgt := 140) X (dk D_Mi_number 71 rfl) (by decide) ?_
        exact v_iret X hlk hrt (dk D_Mi_number 73 rfl) ⟨by rw [hres, List.drop_eq_nil_of_le (by omega), nmD, Option.map_some, Option.getD_some, if_pos hbl], rfl⟩
      · refine v_iload_n X (dk D_Mi_number 43 rfl) rfl ?_
        refine v_iload_n X (dk D_Mi_number 44 rfl) rfl ?_
        refine v_icmp_ge (tgt := 127) X (dk D_Mi_number 45 rfl) (by decide) (fun _ => ?_) (fun c80 => absurd (nI_le (by omega) (by omega)) c80)
        refine v_iload X (dk D_Mi_number 67 rfl) rfl ?_
        refine v_if_eq (tgt := 138) X (dk D_Mi_number 68 rfl) (by decide) (fun _ => ?_) (fun c129 => absurd (by rw [hbl]; decide) c129)
        refine v_iload X (dk D_Mi_number 72 rfl) rfl ?_
        exact v_iret X hlk hrt (dk D_Mi_number 73 rfl) ⟨by rw [hres, List.drop_eq_nil_of_le (by omega), nmD, Option.map_some, Option.getD_some, if_neg (by rw [hbl]; decide)], rfl⟩
    | succ d ih =>
      intro k v hkd hres
      refine v_iload_n X (dk D_Mi_number 43 rfl) rfl ?_
      refine v_iload_n X (dk D_Mi_number 44 rfl) rfl ?_
      refine v_icmp_ge (tgt := 127) X (dk D_Mi_number 45 rfl) (by decide) (fun c80 => absurd c80 (nI_ge (by omega) (by omega))) (fun _ => ?_)
      refine v_aload_n X (dk D_Mi_number 46 rfl) rfl ?_
      refine v_getF X (dk D_Mi_number 47 rfl) F_Mi_37 rfl rfl (hS.lt (by decide)) (hS.2 0 4) ?_
      refine v_getF X (dk D_Mi_number 48 rfl) F_Mi_219 rfl rfl (hS.lt (by decide)) (hS.2 17 0) ?_
      refine v_iload_n X (dk D_Mi_number 49 rfl) rfl ?_
      refine v_invV (As := [.int (nI (stA f r i + k))]) (st := []) X (k_at l q hC.1) (dk D_Mi_number 50 rfl) G_Mi_119 K_By_at V_By_at rfl rfl (hS.lt (by decide)) rfl rfl (Nat.le_of_ble_eq_true rfl) (Nat.le_of_ble_eq_true rfl) (Nat.le_of_ble_eq_true rfl) (Nat.le_of_ble_eq_true rfl) (Nat.le_of_ble_eq_true rfl) ?_
      rintro v2 ws ⟨rfl, hws⟩
      rw [hws, ag_at hC (by omega)]
      show Vv _ _ _ _ _ _ _ _ _ _ _ _ _ _ _ [.int ((f.2.1.getD i []).getD k 0 &&& 255)] (0, 0, g)
      refine v_istore (lb := [some (.ref 0), some (.int (nI i)), some (.int (nI (stA f r i + k))), some (.int (nI (stA f r i + (f.2.1.getD i []).length))), some (.int (if bl = true then 1 else 0)), some (.int v), some (.int ((f.2.1.getD i []).getD k 0 &&& 255))]) X (dk D_Mi_number 51 rfl) (by decide) rfl ?_
      refine v_iload X (dk D_Mi_number 52 rfl) rfl ?_
      refine v_invS (As := [.int ((f.2.1.getD i []).getD k 0 &&& 255)]) (st := []) X (k_isDigit l q (b := ((f.2.1.getD i []).getD k 0 &&& 255)) (g := g)) (dk D_Mi_number 53 rfl) G_Mi_267 K_Mi_isDigit S_Mi_isDigit rfl rfl (Nat.le_of_ble_eq_true rfl) (Nat.le_of_ble_eq_true rfl) (Nat.le_of_ble_eq_true rfl) (Nat.le_of_ble_eq_true rfl) (Nat.le_of_ble_eq_true rfl) ?_
      rintro v2 ws ⟨rfl, hws⟩
      rw [hws]
      show Vv _ _ _ _ _ _ _ _ _ _ _ _ _ _ _ [.int (if isDig ((f.2.1.getD i []).getD k 0 &&& 255) = true then 1 else 0)] (0, 0, g)
      refine v_if_ne (tgt := 108) X (dk D_Mi_number 54 rfl) (by decide) (fun c101 => ?_) (fun c101 => ?_)
      · refine v_iload X (dk D_Mi_number 57 rfl) rfl ?_
        refine v_bipush (v := 10) X (dk D_Mi_number 58 rfl) (by decide) ?_
        refine v_imul X (dk D_Mi_number 59 rfl) ?_
        refine v_iload X (dk D_Mi_number 60 rfl) rfl ?_
        refine v_bipush (v := 48) X (dk D_Mi_number 61 rfl) (by decide) ?_
        refine v_isub X (dk D_Mi_number 62 rfl) ?_
        refine v_iadd X (dk D_Mi_number 63 rfl) ?_
        refine v_istore (lb := [some (.ref 0), some (.int (nI i)), some (.int (nI (stA f r i + k))), some (.int (nI (stA f r i + (f.2.1.getD i []).length))), some (.int (if bl = true then 1 else 0)), some (.int (v * 10 + (((f.2.1.getD i []).getD k 0 &&& 255) - 48))), some (.int ((f.2.1.getD i []).getD k 0 &&& 255))]) X (dk D_Mi_number 64 rfl) (by decide) rfl ?_
        refine v_iinc (v := nI (stA f r i + k + 1)) (lb := [some (.ref 0), some (.int (nI i)), some (.int (nI (stA f r i + k + 1))), some (.int (nI (stA f r i + (f.2.1.getD i []).length))), some (.int (if bl = true then 1 else 0)), some (.int (v * 10 + (((f.2.1.getD i []).getD k 0 &&& 255) - 48))), some (.int ((f.2.1.getD i []).getD k 0 &&& 255))]) X (dk D_Mi_number 65 rfl) rfl (nI_1 _) (by decide) rfl ?_
        refine v_goto (tgt := 78) X (dk D_Mi_number 66 rfl) (by decide) ?_
        exact v_weak (la := [some (.ref 0), some (.int (nI i)), some (.int (nI (stA f r i + (k + 1)))), some (.int (nI (stA f r i + (f.2.1.getD i []).length))), some (.int (if bl = true then 1 else 0)), some (.int (v * 10 + (((f.2.1.getD i []).getD k 0 &&& 255) - 48))), none]) ⟨rfl, rfl, rfl, rfl, rfl, rfl, trivial⟩ (ih (k + 1) (v * 10 + (((f.2.1.getD i []).getD k 0 &&& 255) - 48)) (by omega) (by rw [hres, dr_cons (by omega), nmD, if_pos (Decidable.byContradiction (fun h => c101 (if_neg h)))]))
      · refine v_ldcw X (dk D_Mi_number 55 rfl) C_Mi_364 ?_
        exact v_iret X hlk hrt (dk D_Mi_number 56 rfl) ⟨by rw [hres, dr_cons (by omega), nmD, if_neg (fun h => absurd c101 (by rw [if_pos h]; decide))]; rfl, rfl⟩
  by_cases hz : (f.2.1.getD i []).length = 0
  · refine v_aload_n X (dk D_Mi_number 0 rfl) rfl ?_
    refine v_getF X (dk D_Mi_number 1 rfl) F_Mi_37 rfl rfl (hS.lt (by decide)) (hS.2 0 4) ?_
    refine v_iload_n X (dk D_Mi_number 2 rfl) rfl ?_
    refine v_invV (As := [.int (nI i)]) (st := []) X (k_start l q (i := i) hS hC (by omega)) (dk D_Mi_number 3 rfl) G_Mi_283 K_Ca_start V_Ca_start rfl rfl (hS.lt (by decide)) rfl rfl (Nat.le_of_ble_eq_true rfl) (Nat.le_of_ble_eq_true rfl) (Nat.le_of_ble_eq_true rfl) (Nat.le_of_ble_eq_true rfl) (Nat.le_of_ble_eq_true rfl) ?_
    rintro v ws ⟨rfl, hws⟩
    rw [hws]
    show Vv _ _ _ _ _ _ _ _ _ _ _ _ _ _ _ [.int (nI (stA f r i))] (0, 0, g)
    refine v_istore_n (lb := [some (.ref 0), some (.int (nI i)), some (.int (nI (stA f r i))), none, none, none, none]) X (dk D_Mi_number 4 rfl) (by decide) rfl ?_
    refine v_iload_n X (dk D_Mi_number 5 rfl) rfl ?_
    refine v_aload_n X (dk D_Mi_number 6 rfl) rfl ?_
    refine v_getF X (dk D_Mi_number 7 rfl) F_Mi_37 rfl rfl (hS.lt (by decide)) (hS.2 0 4) ?_
    refine v_iload_n X (dk D_Mi_number 8 rfl) rfl ?_
    refine v_invV (As := [.int (nI i)]) (st := [.int (nI (stA f r i))]) X (k_length l q (i := i) hS hC (by omega)) (dk D_Mi_number 9 rfl) G_Mi_286 K_Ca_length V_Ca_length rfl rfl (hS.lt (by decide)) rfl rfl (Nat.le_of_ble_eq_true rfl) (Nat.le_of_ble_eq_true rfl) (Nat.le_of_ble_eq_true rfl) (Nat.le_of_ble_eq_true rfl) (Nat.le_of_ble_eq_true rfl) ?_
    rintro v ws ⟨rfl, hws⟩
    rw [hws]
    show Vv _ _ _ _ _ _ _ _ _ _ _ _ _ _ _ [.int (nI (f.2.1.getD i []).length), .int (nI (stA f r i))] (0, 0, g)
    refine v_iadd X (dk D_Mi_number 10 rfl) ?_
    rw [nI_add]
    refine v_istore_n (lb := [some (.ref 0), some (.int (nI i)), some (.int (nI (stA f r i))), some (.int (nI (stA f r i + (f.2.1.getD i []).length))), none, none, none]) X (dk D_Mi_number 11 rfl) (by decide) rfl ?_
    refine v_iload_n X (dk D_Mi_number 12 rfl) rfl ?_
    refine v_iload_n X (dk D_Mi_number 13 rfl) rfl ?_
    refine v_icmp_ne (tgt := 27) X (dk D_Mi_number 14 rfl) (by decide) (fun c22 => absurd (congrArg nI (by omega)) c22) (fun _ => ?_)
    refine v_iconst (v := 0) X (dk D_Mi_number 15 rfl) (by decide) ?_
    exact v_iret X hlk hrt (dk D_Mi_number 16 rfl) ⟨by rw [nmX, if_pos (List.length_eq_zero_iff.mp hz)]; rfl, rfl⟩
  · by_cases hm : (f.2.1.getD i []).getD 0 0 &&& 255 = 45
    · refine v_aload_n X (dk D_Mi_number 0 rfl) rfl ?_
      refine v_getF X (dk D_Mi_number 1 rfl) F_Mi_37 rfl rfl (hS.lt (by decide)) (hS.2 0 4) ?_
      refine v_iload_n X (dk D_Mi_number 2 rfl) rfl ?_
      refine v_invV (As := [.int (nI i)]) (st := []) X (k_start l q (i := i) hS hC (by omega)) (dk D_Mi_number 3 rfl) G_Mi_283 K_Ca_start V_Ca_start rfl rfl (hS.lt (by decide)) rfl rfl (Nat.le_of_ble_eq_true rfl) (Nat.le_of_ble_eq_true rfl) (Nat.le_of_ble_eq_true rfl) (Nat.le_of_ble_eq_true rfl) (Nat.le_of_ble_eq_true rfl) ?_
      rintro v ws ⟨rfl, hws⟩
      rw [hws]
      show Vv _ _ _ _ _ _ _ _ _ _ _ _ _ _ _ [.int (nI (stA f r i))] (0, 0, g)
      refine v_istore_n (lb := [some (.ref 0), some (.int (nI i)), some (.int (nI (stA f r i))), none, none, none, none]) X (dk D_Mi_number 4 rfl) (by decide) rfl ?_
      refine v_iload_n X (dk D_Mi_number 5 rfl) rfl ?_
      refine v_aload_n X (dk D_Mi_number 6 rfl) rfl ?_
      refine v_getF X (dk D_Mi_number 7 rfl) F_Mi_37 rfl rfl (hS.lt (by decide)) (hS.2 0 4) ?_
      refine v_iload_n X (dk D_Mi_number 8 rfl) rfl ?_
      refine v_invV (As := [.int (nI i)]) (st := [.int (nI (stA f r i))]) X (k_length l q (i := i) hS hC (by omega)) (dk D_Mi_number 9 rfl) G_Mi_286 K_Ca_length V_Ca_length rfl rfl (hS.lt (by decide)) rfl rfl (Nat.le_of_ble_eq_true rfl) (Nat.le_of_ble_eq_true rfl) (Nat.le_of_ble_eq_true rfl) (Nat.le_of_ble_eq_true rfl) (Nat.le_of_ble_eq_true rfl) ?_
      rintro v ws ⟨rfl, hws⟩
      rw [hws]
      show Vv _ _ _ _ _ _ _ _ _ _ _ _ _ _ _ [.int (nI (f.2.1.getD i []).length), .int (nI (stA f r i))] (0, 0, g)
      refine v_iadd X (dk D_Mi_number 10 rfl) ?_
      rw [nI_add]
      refine v_istore_n (lb := [some (.ref 0), some (.int (nI i)), some (.int (nI (stA f r i))), some (.int (nI (stA f r i + (f.2.1.getD i []).length))), none, none, none]) X (dk D_Mi_number 11 rfl) (by decide) rfl ?_
      refine v_iload_n X (dk D_Mi_number 12 rfl) rfl ?_
      refine v_iload_n X (dk D_Mi_number 13 rfl) rfl ?_
      refine v_icmp_ne (tgt := 27) X (dk D_Mi_number 14 rfl) (by decide) (fun _ => ?_) (fun c22 => absurd c22 (fun z => hz (by have := (nI_eq (by omega) (by omega)).mp z; omega)))
      refine v_aload_n X (dk D_Mi_number 17 rfl) rfl ?_
      refine v_getF X (dk D_Mi_number 18 rfl) F_Mi_37 rfl rfl (hS.lt (by decide)) (hS.2 0 4) ?_
      refine v_getF X (dk D_Mi_number 19 rfl) F_Mi_219 rfl rfl (hS.lt (by decide)) (hS.2 17 0) ?_
      refine v_iload_n X (dk D_Mi_number 20 rfl) rfl ?_
      refine v_invV (As := [.int (nI (stA f r i))]) (st := []) X (k_at l q hC.1) (dk D_Mi_number 21 rfl) G_Mi_119 K_By_at V_By_at rfl rfl (hS.lt (by decide)) rfl rfl (Nat.le_of_ble_eq_true rfl) (Nat.le_of_ble_eq_true rfl) (Nat.le_of_ble_eq_true rfl) (Nat.le_of_ble_eq_true rfl) (Nat.le_of_ble_eq_true rfl) ?_
      rintro v2 ws ⟨rfl, hws⟩
      rw [hws, show atL (hl (f :: r)) (nI (stA f r i)) = (f.2.1.getD i []).getD 0 0 &&& 255 from ag_at (k := 0) hC (by omega)]
      show Vv _ _ _ _ _ _ _ _ _ _ _ _ _ _ _ [.int ((f.2.1.getD i []).getD 0 0 &&& 255)] (0, 0, g)
      refine v_bipush (v := 45) X (dk D_Mi_number 22 rfl) (by decide) ?_
      refine v_icmp_ne (tgt := 47) X (dk D_Mi_number 23 rfl) (by decide) (fun c40 => absurd hm c40) (fun _ => ?_)
      refine v_iconst (v := 1) X (dk D_Mi_number 24 rfl) (by decide) ?_
      refine v_goto (tgt := 48) X (dk D_Mi_number 25 rfl) (by decide) ?_
      refine v_istore (lb := [some (.ref 0), some (.int (nI i)), some (.int (nI (stA f r i))), some (.int (nI (stA f r i + (f.2.1.getD i []).length))), some (.int 1), none, none]) X (dk D_Mi_number 27 rfl) (by decide) rfl ?_
      refine v_iload X (dk D_Mi_number 28 rfl) rfl ?_
      refine v_if_eq (tgt := 58) X (dk D_Mi_number 29 rfl) (by decide) (fun c52 => absurd c52 (by decide)) (fun _ => ?_)
      refine v_iinc (v := nI (stA f r i + 1)) (lb := [some (.ref 0), some (.int (nI i)), some (.int (nI (stA f r i + 1))), some (.int (nI (stA f r i + (f.2.1.getD i []).length))), some (.int 1), none, none]) X (dk D_Mi_number 30 rfl) rfl (nI_1 _) (by decide) rfl ?_
      refine v_iload_n X (dk D_Mi_number 31 rfl) rfl ?_
      refine v_iload_n X (dk D_Mi_number 32 rfl) rfl ?_
      refine v_icmp_eq (tgt := 71) X (dk D_Mi_number 33 rfl) (by decide) (fun c60 => ?_) (fun c60 => ?_)
      · refine v_ldcw X (dk D_Mi_number 39 rfl) C_Mi_364 ?_
        exact v_iret X hlk hrt (dk D_Mi_number 40 rfl) ⟨by rw [nmX, if_neg (show ¬ (f.2.1.getD i []) = [] from fun h => hz (by rw [h]; rfl)), if_pos hm, if_pos (Or.inl (List.length_eq_zero_iff.mp (by rw [List.length_tail]; have := (nI_eq (by omega) (by omega)).mp c60; omega)))]; rfl, rfl⟩
      · refine v_iload_n X (dk D_Mi_number 34 rfl) rfl ?_
        refine v_iload_n X (dk D_Mi_number 35 rfl) rfl ?_
        refine v_isub X (dk D_Mi_number 36 rfl) ?_
        refine v_bipush (v := 9) X (dk D_Mi_number 37 rfl) (by decide) ?_
        refine v_icmp_le (tgt := 75) X (dk D_Mi_number 38 rfl) (by decide) (fun c68 => ?_) (fun c68 => ?_)
        · have h68 : (f.2.1.getD i []).length - 1 ≤ 9 := by rw [pk_sub (by omega)] at c68; have := (nI_leI (b := 9) (by omega) (by decide)).mp c68; omega
          refine v_iconst (v := 0) X (dk D_Mi_number 41 rfl) (by decide) ?_
          refine v_istore (lb := [some (.ref 0), some (.int (nI i)), some (.int (nI (stA f r i + 1))), some (.int (nI (stA f r i + (f.2.1.getD i []).length))), some (.int 1), some (.int 0), none]) X (dk D_Mi_number 42 rfl) (by decide) rfl ?_
          exact loop true ((f.2.1.getD i []).length - 1) 1 0 (by omega) (by rw [nmX, if_neg (show ¬ (f.2.1.getD i []) = [] from fun h => hz (by rw [h]; rfl)), if_pos hm, if_neg (fun z => by rcases z with z | z; exact c60 (congrArg nI (by have := congrArg List.length z; rw [List.length_tail, List.length_nil] at this; omega)); rw [List.length_tail] at z; omega), List.drop_one]; rfl)
        · have h68 : 9 < (f.2.1.getD i []).length - 1 := Decidable.byContradiction (fun z => c68 (by rw [pk_sub (by omega)]; exact nI_le (b := 9) (by omega) (by decide)))
          refine v_ldcw X (dk D_Mi_number 39 rfl) C_Mi_364 ?_
          exact v_iret X hlk hrt (dk D_Mi_number 40 rfl) ⟨by rw [nmX, if_neg (show ¬ (f.2.1.getD i []) = [] from fun h => hz (by rw [h]; rfl)), if_pos hm, if_pos (Or.inr (by rw [List.length_tail]; have := h68; omega))]; rfl, rfl⟩
    · refine v_aload_n X (dk D_Mi_number 0 rfl) rfl ?_
      refine v_getF X (dk D_Mi_number 1 rfl) F_Mi_37 rfl rfl (hS.lt (by decide)) (hS.2 0 4) ?_
      refine v_iload_n X (dk D_Mi_number 2 rfl) rfl ?_
      refine v_invV (As := [.int (nI i)]) (st := []) X (k_start l q (i := i) hS hC (by omega)) (dk D_Mi_number 3 rfl) G_Mi_283 K_Ca_start V_Ca_start rfl rfl (hS.lt (by decide)) rfl rfl (Nat.le_of_ble_eq_true rfl) (Nat.le_of_ble_eq_true rfl) (Nat.le_of_ble_eq_true rfl) (Nat.le_of_ble_eq_true rfl) (Nat.le_of_ble_eq_true rfl) ?_
      rintro v ws ⟨rfl, hws⟩
      rw [hws]
      show Vv _ _ _ _ _ _ _ _ _ _ _ _ _ _ _ [.int (nI (stA f r i))] (0, 0, g)
      refine v_istore_n (lb := [some (.ref 0), some (.int (nI i)), some (.int (nI (stA f r i))), none, none, none, none]) X (dk D_Mi_number 4 rfl) (by decide) rfl ?_
      refine v_iload_n X (dk D_Mi_number 5 rfl) rfl ?_
      refine v_aload_n X (dk D_Mi_number 6 rfl) rfl ?_
      refine v_getF X (dk D_Mi_number 7 rfl) F_Mi_37 rfl rfl (hS.lt (by decide)) (hS.2 0 4) ?_
      refine v_iload_n X (dk D_Mi_number 8 rfl) rfl ?_
      refine v_invV (As := [.int (nI i)]) (st := [.int (nI (stA f r i))]) X (k_length l q (i := i) hS hC (by omega)) (dk D_Mi_number 9 rfl) G_Mi_286 K_Ca_length V_Ca_length rfl rfl (hS.lt (by decide)) rfl rfl (Nat.le_of_ble_eq_true rfl) (Nat.le_of_ble_eq_true rfl) (Nat.le_of_ble_eq_true rfl) (Nat.le_of_ble_eq_true rfl) (Nat.le_of_ble_eq_true rfl) ?_
      rintro v ws ⟨rfl, hws⟩
      rw [hws]
      show Vv _ _ _ _ _ _ _ _ _ _ _ _ _ _ _ [.int (nI (f.2.1.getD i []).length), .int (nI (stA f r i))] (0, 0, g)
      refine v_iadd X (dk D_Mi_number 10 rfl) ?_
      rw [nI_add]
      refine v_istore_n (lb := [some (.ref 0), some (.int (nI i)), some (.int (nI (stA f r i))), some (.int (nI (stA f r i + (f.2.1.getD i []).length))), none, none, none]) X (dk D_Mi_number 11 rfl) (by decide) rfl ?_
      refine v_iload_n X (dk D_Mi_number 12 rfl) rfl ?_
      refine v_iload_n X (dk D_Mi_number 13 rfl) rfl ?_
      refine v_icmp_ne (tgt := 27) X (dk D_Mi_number 14 rfl) (by decide) (fun _ => ?_) (fun c22 => absurd c22 (fun z => hz (by have := (nI_eq (by omega) (by omega)).mp z; omega)))
      refine v_aload_n X (dk D_Mi_number 17 rfl) rfl ?_
      refine v_getF X (dk D_Mi_number 18 rfl) F_Mi_37 rfl rfl (hS.lt (by decide)) (hS.2 0 4) ?_
      refine v_getF X (dk D_Mi_number 19 rfl) F_Mi_219 rfl rfl (hS.lt (by decide)) (hS.2 17 0) ?_
      refine v_iload_n X (dk D_Mi_number 20 rfl) rfl ?_
      refine v_invV (As := [.int (nI (stA f r i))]) (st := []) X (k_at l q hC.1) (dk D_Mi_number 21 rfl) G_Mi_119 K_By_at V_By_at rfl rfl (hS.lt (by decide)) rfl rfl (Nat.le_of_ble_eq_true rfl) (Nat.le_of_ble_eq_true rfl) (Nat.le_of_ble_eq_true rfl) (Nat.le_of_ble_eq_true rfl) (Nat.le_of_ble_eq_true rfl) ?_
      rintro v2 ws ⟨rfl, hws⟩
      rw [hws, show atL (hl (f :: r)) (nI (stA f r i)) = (f.2.1.getD i []).getD 0 0 &&& 255 from ag_at (k := 0) hC (by omega)]
      show Vv _ _ _ _ _ _ _ _ _ _ _ _ _ _ _ [.int ((f.2.1.getD i []).getD 0 0 &&& 255)] (0, 0, g)
      refine v_bipush (v := 45) X (dk D_Mi_number 22 rfl) (by decide) ?_
      refine v_icmp_ne (tgt := 47) X (dk D_Mi_number 23 rfl) (by decide) (fun _ => ?_) (fun c40 => absurd c40 hm)
      refine v_iconst (v := 0) X (dk D_Mi_number 26 rfl) (by decide) ?_
      refine v_istore (lb := [some (.ref 0), some (.int (nI i)), some (.int (nI (stA f r i))), some (.int (nI (stA f r i + (f.2.1.getD i []).length))), some (.int 0), none, none]) X (dk D_Mi_number 27 rfl) (by decide) rfl ?_
      refine v_iload X (dk D_Mi_number 28 rfl) rfl ?_
      refine v_if_eq (tgt := 58) X (dk D_Mi_number 29 rfl) (by decide) (fun _ => ?_) (fun c52 => absurd rfl c52)
      refine v_iload_n X (dk D_Mi_number 31 rfl) rfl ?_
      refine v_iload_n X (dk D_Mi_number 32 rfl) rfl ?_
      refine v_icmp_eq (tgt := 71) X (dk D_Mi_number 33 rfl) (by decide) (fun c60 => absurd c60 (fun z => hz (by have := (nI_eq (by omega) (by omega)).mp z; omega))) (fun _ => ?_)
      refine v_iload_n X (dk D_Mi_number 34 rfl) rfl ?_
      refine v_iload_n X (dk D_Mi_number 35 rfl) rfl ?_
      refine v_isub X (dk D_Mi_number 36 rfl) ?_
      refine v_bipush (v := 9) X (dk D_Mi_number 37 rfl) (by decide) ?_
      refine v_icmp_le (tgt := 75) X (dk D_Mi_number 38 rfl) (by decide) (fun c68 => ?_) (fun c68 => ?_)
      · have h68 : (f.2.1.getD i []).length ≤ 9 := by rw [pk_sub (by omega)] at c68; have := (nI_leI (b := 9) (by omega) (by decide)).mp c68; omega
        refine v_iconst (v := 0) X (dk D_Mi_number 41 rfl) (by decide) ?_
        refine v_istore (lb := [some (.ref 0), some (.int (nI i)), some (.int (nI (stA f r i))), some (.int (nI (stA f r i + (f.2.1.getD i []).length))), some (.int 0), some (.int 0), none]) X (dk D_Mi_number 42 rfl) (by decide) rfl ?_
        exact loop false (f.2.1.getD i []).length 0 0 (by omega) (by rw [nmX, if_neg (show ¬ (f.2.1.getD i []) = [] from fun h => hz (by rw [h]; rfl)), if_neg hm, if_neg (fun z => by omega), List.drop_zero]; exact Option.map_id'.symm)
      · have h68 : 9 < (f.2.1.getD i []).length := Decidable.byContradiction (fun z => c68 (by rw [pk_sub (by omega)]; exact nI_le (b := 9) (by omega) (by decide)))
        refine v_ldcw X (dk D_Mi_number 39 rfl) C_Mi_364 ?_
        exact v_iret X hlk hrt (dk D_Mi_number 40 rfl) ⟨by rw [nmX, if_neg (show ¬ (f.2.1.getD i []) = [] from fun h => hz (by rw [h]; rfl)), if_neg hm, if_pos h68]; rfl, rfl⟩
