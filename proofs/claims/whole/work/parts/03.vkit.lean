
/-! THE WALKS' KIT: codes for addresses, memory as functions, a row an instruction -/
abbrev ev_T : Type := Nat × va_G × (Nat → ClassId) × (Nat → Nat)
def ev_ad (q : ev_T) (c : Nat) : Nat := if c < 1048576 then q.1 + c else q.2.2.2 c
def ev_v (q : ev_T) (v : Value) : Value := match v with
  | .ref c => .ref (ev_ad q c)
  | w => w
theorem ev_rf (q : ev_T) (r : Option Nat) : ev_v q (va_rf r) = va_rf (r.map (ev_ad q)) := by cases r <;> rfl
theorem ev_cat (q : ev_T) (v : Value) : (ev_v q v).category = v.category := by cases v <;> rfl
theorem ev_lo {q : ev_T} {c : Nat} (h : c < 1048576) : ev_ad q c = q.1 + c := if_pos h
theorem ev_hi {q : ev_T} {c : Nat} (h : 1048576 ≤ c) : ev_ad q c = q.2.2.2 c := if_neg (Nat.not_lt.mpr h)
/-- cells left, slots left, cells made, final references, ints, references -/
abbrev mu_T : Type := Nat × (Nat → Nat → Option Nat) × (Nat → Nat → Int32) × (Nat → Nat → Option Nat)
abbrev mm_T : Type := Nat × Nat × mu_T
abbrev gN (g : mu_T) : Nat := g.1
abbrev gF (g : mu_T) : Nat → Nat → Option Nat := g.2.1
abbrev gI (g : mu_T) : Nat → Nat → Int32 := g.2.2.1
abbrev gR (g : mu_T) : Nat → Nat → Option Nat := g.2.2.2
abbrev mN (u : mm_T) : Nat := u.2.2.1
abbrev mF (u : mm_T) : Nat → Nat → Option Nat := u.2.2.2.1
abbrev mI (u : mm_T) : Nat → Nat → Int32 := u.2.2.2.2.1
abbrev mR (u : mm_T) : Nat → Nat → Option Nat := u.2.2.2.2.2
def up2 {α : Type} (f : Nat → Nat → α) (a k : Nat) (x : α) : Nat → Nat → α := fun b j => if b = a ∧ j = k then x else f b j
theorem up2_eq {α : Type} (f : Nat → Nat → α) (a k : Nat) (x : α) : up2 f a k x a k = x := if_pos ⟨rfl, rfl⟩
theorem up2_na {α : Type} {f : Nat → Nat → α} {a k b j : Nat} {x : α} (h : b ≠ a) : up2 f a k x b j = f b j := if_neg fun z => h z.1
theorem up2_nk {α : Type} {f : Nat → Nat → α} {a k b j : Nat} {x : α} (h : j ≠ k) : up2 f a k x b j = f b j := if_neg fun z => h z.2
theorem up2_nf {α : Type} {f : Nat → Nat → α} {a k b : Nat} {x : α} (h : b ≠ a) : up2 f a k x b = f b := funext fun _ => up2_na h
def xI (g : mu_T) (a k : Nat) (x : Int32) : mu_T := (g.1, g.2.1, up2 g.2.2.1 a k x, g.2.2.2)
def xR (g : mu_T) (a k : Nat) (x : Option Nat) : mu_T := (g.1, g.2.1, g.2.2.1, up2 g.2.2.2 a k x)
def xF (g : mu_T) (a k : Nat) (x : Option Nat) : mu_T := (g.1, up2 g.2.1 a k x, g.2.2.1, g.2.2.2)
def xA (g : mu_T) (a : Nat) (f : Nat → Int32) : mu_T := (g.1, g.2.1, fun b => if b = a then f else g.2.2.1 b, g.2.2.2)
def wI (u : mm_T) (a k : Nat) (x : Int32) : mm_T := (u.1, u.2.1, u.2.2.1, u.2.2.2.1, up2 u.2.2.2.2.1 a k x, u.2.2.2.2.2)
def wR (u : mm_T) (a k : Nat) (x : Option Nat) : mm_T := (u.1, u.2.1, u.2.2.1, u.2.2.2.1, u.2.2.2.2.1, up2 u.2.2.2.2.2 a k x)
def wF (u : mm_T) (a k : Nat) (x : Option Nat) : mm_T := (u.1, u.2.1, u.2.2.1, up2 u.2.2.2.1 a k x, u.2.2.2.2.1, u.2.2.2.2.2)
/-- a whole row of ints -/
def wA (u : mm_T) (a : Nat) (f : Nat → Int32) : mm_T := (u.1, u.2.1, u.2.2.1, u.2.2.2.1, fun b => if b = a then f else u.2.2.2.2.1 b, u.2.2.2.2.2)
def mm_av (u : mm_T) (ci a k : Nat) : Value := match fsT ci k with
  | 0 => .int (mI u a k)
  | 1 => va_rf (mR u a k)
  | _ => va_rf (mF u a k)
def mm_E (q : ev_T) (u : mm_T) (i : Nat) : va_E := match kdT i with
  | .inl ci => .inr (ci, (List.range (nfT ci)).map (fun k => ev_v q (mm_av u ci i k)))
  | .inr (t, len) => if t < 3 then .inl (q.2.2.1 t, len, .inl (mI u i)) else .inl (q.2.2.1 t, len, .inr (.inr (.inr (.inr (fun j => (mR u i j).map (ev_ad q))))))
def mm_ws (q : ev_T) (u : mm_T) : va_W := (List.range (mN u)).map (fun i => (q.1 + i, mm_E q u i))
/-- rows of bytes hold bytes -/
def mmB (u : mm_T) : Prop := ∀ (i len : Nat), kdT i = .inr (1, len) → ∀ j, (mI u i j).toInt8.toInt32 = mI u i j
/-- what is not made yet is blank -/
def mmZ (u : mm_T) : Prop := ∀ i, mN u ≤ i → ∀ k, mI u i k = 0 ∧ mR u i k = none ∧ mF u i k = none
def WD (q : ev_T) (u : mm_T) (H : Heap) : Prop := H.size = q.1 + mN u ∧ va_P q.2.1 vwCl (mm_ws q u) H ∧ mN u ≤ 1048576 ∧ mmB u ∧ mmZ u
def ev_tys (q : ev_T) : List (ClassId × FieldType) := (List.range tyT.length).map (fun t => (q.2.2.1 t, tyT.getD t .int))
theorem mmZ_I {u : mm_T} {a k : Nat} {x : Int32} (h : mmZ u) (ha : a < mN u) : mmZ (wI u a k x) := fun i hi j => ⟨(up2_na (by intro z; subst z; exact absurd (show mN u ≤ i from hi) (Nat.not_le.mpr ha))).trans (h i hi j).1, (h i hi j).2⟩
theorem mmZ_R {u : mm_T} {a k : Nat} {x : Option Nat} (h : mmZ u) (ha : a < mN u) : mmZ (wR u a k x) := fun i hi j => ⟨(h i hi j).1, (up2_na (by intro z; subst z; exact absurd (show mN u ≤ i from hi) (Nat.not_le.mpr ha))).trans (h i hi j).2.1, (h i hi j).2.2⟩
theorem mmZ_F {u : mm_T} {a k : Nat} {x : Option Nat} (h : mmZ u) (ha : a < mN u) : mmZ (wF u a k x) := fun i hi j => ⟨(h i hi j).1, (h i hi j).2.1, (up2_na (by intro z; subst z; exact absurd (show mN u ≤ i from hi) (Nat.not_le.mpr ha))).trans (h i hi j).2.2⟩
theorem mmZ_A {u : mm_T} {a : Nat} {f : Nat → Int32} (h : mmZ u) (ha : a < mN u) : mmZ (wA u a f) := fun i hi j => ⟨by
    have hne : i ≠ a := by intro z; subst z; exact absurd (show mN u ≤ i from hi) (Nat.not_le.mpr ha)
    show (if i = a then f else mI u i) j = 0
    rw [if_neg hne]; exact (h i hi j).1, (h i hi j).2⟩
theorem mmB_R {u : mm_T} {a k : Nat} {x : Option Nat} (h : mmB u) : mmB (wR u a k x) := h
theorem mmB_F {u : mm_T} {a k : Nat} {x : Option Nat} (h : mmB u) : mmB (wF u a k x) := h
theorem mmB_In {u : mm_T} {a k : Nat} {x : Int32} (h : mmB u) (hk : ∀ len, kdT a ≠ .inr (1, len)) : mmB (wI u a k x) := fun i len hi j => by
  have hne : i ≠ a := by intro z; subst z; exact hk len hi
  show (up2 (mI u) a k x i j).toInt8.toInt32 = up2 (mI u) a k x i j
  rw [up2_na hne]; exact h i len hi j
theorem mmB_Ib {u : mm_T} {a k : Nat} {x : Int32} (h : mmB u) (hx : x.toInt8.toInt32 = x) : mmB (wI u a k x) := fun i len hi j => by
  show (up2 (mI u) a k x i j).toInt8.toInt32 = up2 (mI u) a k x i j
  by_cases hj : i = a ∧ j = k
  · rw [show up2 (mI u) a k x i j = x from if_pos hj]; exact hx
  · rw [show up2 (mI u) a k x i j = mI u i j from if_neg hj]; exact h i len hi j
theorem mmB_A {u : mm_T} {a : Nat} {f : Nat → Int32} (h : mmB u) (hf : ∀ len, kdT a = .inr (1, len) → ∀ j, (f j).toInt8.toInt32 = f j) : mmB (wA u a f) := fun i len hi j => by
  show ((if i = a then f else mI u i) j).toInt8.toInt32 = (if i = a then f else mI u i) j
  by_cases hj : i = a
  · rw [if_pos hj]; subst hj; exact hf len hi j
  · rw [if_neg hj]; exact h i len hi j
theorem mm_at {q : ev_T} {u : mm_T} {i : Nat} (h : i < mN u) : (mm_ws q u)[i]? = some (q.1 + i, mm_E q u i) := by
  simp only [mm_ws, List.getElem?_map, List.getElem?_range h, Option.map_some]
theorem mm_D (q : ev_T) (u : mm_T) : va_D (fun a => q.1 ≤ a) (mm_ws q u) := by
  refine ⟨fun i j x y hi hj hxy => ?_, fun k x hk => ?_⟩
  · have hi' := (List.getElem?_eq_some_iff.mp hi).1
    have hj' := (List.getElem?_eq_some_iff.mp hj).1
    have li : i < mN u := by simpa [mm_ws] using hi'
    have lj : j < mN u := by simpa [mm_ws] using hj'
    rw [mm_at li] at hi
    rw [mm_at lj] at hj
    cases hi
    cases hj
    have : q.1 + i = q.1 + j := hxy
    omega
  · have hk' := (List.getElem?_eq_some_iff.mp hk).1
    have lk : k < mN u := by simpa [mm_ws] using hk'
    rw [mm_at lk] at hk
    cases hk
    exact Nat.le_add_right _ _
theorem WD.at {q : ev_T} {u : mm_T} {H : Heap} (h : WD q u H) {i : Nat} (hi : i < mN u) : va_at q.2.1 vwCl (q.1 + i, mm_E q u i) H := h.2.1 i _ (mm_at hi)
/-- one cell is written -/
theorem WD.upd {q : ev_T} {u w : mm_T} {H H1 : Heap} {a : Nat} (h : WD q u H) (hn : mN w = mN u) (hB : mmB w) (hZ : mmZ w) (he : va_at q.2.1 vwCl (q.1 + a, mm_E q w a) H1) (ho : ∀ i, i ≠ a → mm_E q w i = mm_E q u i) (hz : H1.size = H.size) (oq : ∀ x : Nat, x ≠ q.1 + a → H1[x]? = H[x]?) : WD q w H1 := by
  refine ⟨by rw [hz, hn]; exact h.1, fun k x hk => ?_, by rw [hn]; exact h.2.2.1, hB, hZ⟩
  have hk' := (List.getElem?_eq_some_iff.mp hk).1
  have lk : k < mN w := by simpa [mm_ws] using hk'
  rw [mm_at lk] at hk
  cases hk
  by_cases hka : k = a
  · subst hka; exact he
  · rw [ho k hka]
    exact (h.at (by rw [← hn]; exact lk)).kept (oq (q.1 + k) (by omega))
/-- one cell is made -/
theorem WD.new {q : ev_T} {u w : mm_T} {H H1 : Heap} (h : WD q u H) (hn : mN w = mN u + 1) (hc : mN u < 1048576) (hB : mmB w) (hZ : mmZ w) (he : va_at q.2.1 vwCl (q.1 + mN u, mm_E q w (mN u)) H1) (ho : ∀ i, i < mN u → mm_E q w i = mm_E q u i) (hz : H1.size = H.size + 1) (oq : ∀ x : Nat, x < H.size → H1[x]? = H[x]?) : WD q w H1 := by
  refine ⟨by rw [hz, hn, h.1]; omega, fun k x hk => ?_, by rw [hn]; exact hc, hB, hZ⟩
  have hk' := (List.getElem?_eq_some_iff.mp hk).1
  have lk : k < mN w := by simpa [mm_ws] using hk'
  rw [mm_at lk] at hk
  cases hk
  by_cases hka : k = mN u
  · subst hka; exact he
  · have hlt : k < mN u := by omega
    rw [ho k hlt]
    exact (h.at hlt).kept (oq (q.1 + k) (by rw [h.1]; omega))
theorem mm_E_I {q : ev_T} {u : mm_T} {a k i : Nat} {x : Int32} (h : i ≠ a) : mm_E q (wI u a k x) i = mm_E q u i := by
  simp only [mm_E, mm_av, wI, mI, mR, mF, up2_nf h, up2_na h]
theorem mm_E_R {q : ev_T} {u : mm_T} {a k i : Nat} {x : Option Nat} (h : i ≠ a) : mm_E q (wR u a k x) i = mm_E q u i := by
  simp only [mm_E, mm_av, wR, mI, mR, mF, up2_nf h, up2_na h]
theorem mm_E_F {q : ev_T} {u : mm_T} {a k i : Nat} {x : Option Nat} (h : i ≠ a) : mm_E q (wF u a k x) i = mm_E q u i := by
  simp only [mm_E, mm_av, wF, mI, mR, mF, up2_nf h, up2_na h]
theorem mm_E_A {q : ev_T} {u : mm_T} {a i : Nat} {f : Nat → Int32} (h : i ≠ a) : mm_E q (wA u a f) i = mm_E q u i := by
  simp only [mm_E, mm_av, wA, mI, mR, mF, if_neg h]
theorem mm_ob {q : ev_T} {u : mm_T} {i ci : Nat} (h : kdT i = .inl ci) : mm_E q u i = .inr (ci, (List.range (nfT ci)).map (fun k => ev_v q (mm_av u ci i k))) := by simp only [mm_E, h]
theorem mm_ai {q : ev_T} {u : mm_T} {i t len : Nat} (h : kdT i = .inr (t, len)) (ht : t < 3) : mm_E q u i = .inl (q.2.2.1 t, len, .inl (mI u i)) := by simp only [mm_E, h, if_pos ht]
theorem mm_ar {q : ev_T} {u : mm_T} {i t len : Nat} (h : kdT i = .inr (t, len)) (ht : ¬ t < 3) : mm_E q u i = .inl (q.2.2.1 t, len, .inr (.inr (.inr (.inr (fun j => (mR u i j).map (ev_ad q)))))) := by simp only [mm_E, h, if_neg ht]
theorem vp_V_map (f : Nat → Value) {n k : Nat} (h : k < n) : vp_V ((List.range n).map f) k = f k := by
  simp [vp_V, List.getD_eq_getElem?_getD, List.getElem?_map, List.getElem?_range h]
/-- the locals -/
def lh (q : ev_T) (nL : Nat) (la : List (Option Value)) (ls : Array Slot) : Prop := ls.size = nL ∧ la.length = nL ∧ lv_wf ls ∧ ∀ (k : Nat) (v : Value), la[k]? = some (some v) → ls[k]? = some (.val (ev_v q v))
def clr (o : Option Value) : Option Value := match o with
  | some (.long _) => none
  | some (.double _) => none
  | w => w
def st1 (la : List (Option Value)) (i : Nat) (v : Value) : List (Option Value) := (List.range la.length).map (fun k => if k = i then some v else if k + 1 = i then clr (la.getD k none) else la.getD k none)
def st2 (la : List (Option Value)) (i : Nat) (v : Value) : List (Option Value) := (List.range la.length).map (fun k => if k = i then some v else if k = i + 1 then none else if k + 1 = i then clr (la.getD k none) else la.getD k none)
theorem clr_some {o : Option Value} {v : Value} (h : clr o = some v) : o = some v ∧ ¬ v.category = 2 := by
  cases o with
  | none => cases h
  | some w => cases w <;> first | (cases h; exact ⟨rfl, by simp [Value.category]⟩) | (cases h)
def lh_all (ls : Array Slot) : List (Nat × Value) := (List.range ls.size).filterMap (fun k => match (ls[k]? : Option Slot) with
  | some (Slot.val w) => some (k, w)
  | _ => none)
theorem lh_all_mem {ls : Array Slot} {k : Nat} {w : Value} (h : ls[k]? = some (.val w)) : (k, w) ∈ lh_all ls := by
  refine List.mem_filterMap.mpr ⟨k, List.mem_range.mpr (Array.getElem?_eq_some_iff.mp h).1, ?_⟩
  simp only [h]
theorem lh_all_has {q : ev_T} {nL : Nat} {la : List (Option Value)} {ls : Array Slot} (h : lh q nL la ls) : lv_has ls nL (lh_all ls) := by
  refine ⟨h.1, h.2.2.1, fun x hx => ?_⟩
  obtain ⟨k, -, hk⟩ := List.mem_filterMap.mp hx
  cases hs : ls[k]? with
  | none => simp only [hs] at hk; cases hk
  | some z =>
    cases z with
    | val w => simp only [hs] at hk; cases hk; exact hs
    | _ => simp only [hs] at hk; cases hk
theorem lh_st1 {q : ev_T} {nL : Nat} {la : List (Option Value)} {ls ls' : Array Slot} {i : Nat} {v : Value} (h : lh q nL la ls) (h' : lv_has ls' nL ((i, ev_v q v) :: (lh_all ls).filter (fun z => !(z.1 == i) && !(z.1 + 1 == i && z.2.category == 2)))) : lh q nL (st1 la i v) ls' := by
  refine ⟨h'.1, by simp only [st1, List.length_map, List.length_range]; exact h.2.1, h'.2.1, fun k w hk => ?_⟩
  have hlt : k < la.length := by
    have := (List.getElem?_eq_some_iff.mp hk).1
    simpa [st1] using this
  simp only [st1, List.getElem?_map, List.getElem?_range hlt, Option.map_some, Option.some.injEq] at hk
  by_cases h1 : k = i
  · rw [if_pos h1] at hk
    cases hk
    subst h1
    exact h'.2.2 (k, ev_v q v) List.mem_cons_self
  · rw [if_neg h1] at hk
    have key : la.getD k none = some w → (k + 1 = i → ¬ w.category = 2) → ls'[k]? = some (.val (ev_v q w)) := fun hw hc => by
      have hg : la[k]? = some (some w) := by
        rw [List.getD_eq_getElem?_getD, List.getElem?_eq_getElem hlt, Option.getD_some] at hw
        rw [List.getElem?_eq_getElem hlt, hw]
      have hm := lh_all_mem (h.2.2.2 k w hg)
      refine h'.2.2 (k, ev_v q w) (List.mem_cons_of_mem _ (List.mem_filter.mpr ⟨hm, ?_⟩))
      by_cases h2 : k + 1 = i
      · simp [h1, h2, ev_cat, hc h2]
      · simp [h1, h2]
    by_cases h2 : k + 1 = i
    · rw [if_pos h2] at hk
      obtain ⟨e1, e2⟩ := clr_some hk
      exact key e1 fun _ => e2
    · rw [if_neg h2] at hk
      exact key hk fun z => absurd z h2
theorem lh_st2 {q : ev_T} {nL : Nat} {la : List (Option Value)} {ls ls' : Array Slot} {i : Nat} {v : Value} (h : lh q nL la ls) (h' : lv_has ls' nL ((i, ev_v q v) :: (lh_all ls).filter (fun z => !(z.1 == i) && (!(z.1 == i + 1) && !(z.1 + 1 == i && z.2.category == 2))))) : lh q nL (st2 la i v) ls' := by
  refine ⟨h'.1, by simp only [st2, List.length_map, List.length_range]; exact h.2.1, h'.2.1, fun k w hk => ?_⟩
  have hlt : k < la.length := by
    have := (List.getElem?_eq_some_iff.mp hk).1
    simpa [st2] using this
  simp only [st2, List.getElem?_map, List.getElem?_range hlt, Option.map_some, Option.some.injEq] at hk
  by_cases h1 : k = i
  · rw [if_pos h1] at hk
    cases hk
    subst h1
    exact h'.2.2 (k, ev_v q v) List.mem_cons_self
  · rw [if_neg h1] at hk
    by_cases h3 : k = i + 1
    · rw [if_pos h3] at hk
      cases hk
    · rw [if_neg h3] at hk
      have key : la.getD k none = some w → (k + 1 = i → ¬ w.category = 2) → ls'[k]? = some (.val (ev_v q w)) := fun hw hc => by
        have hg : la[k]? = some (some w) := by
          rw [List.getD_eq_getElem?_getD, List.getElem?_eq_getElem hlt, Option.getD_some] at hw
          rw [List.getElem?_eq_getElem hlt, hw]
        have hm := lh_all_mem (h.2.2.2 k w hg)
        refine h'.2.2 (k, ev_v q w) (List.mem_cons_of_mem _ (List.mem_filter.mpr ⟨hm, ?_⟩))
        by_cases h2 : k + 1 = i
        · simp [h1, h2, h3, ev_cat, hc h2]
        · simp [h1, h2, h3]
      by_cases h2 : k + 1 = i
      · rw [if_pos h2] at hk
        obtain ⟨e1, e2⟩ := clr_some hk
        exact key e1 fun _ => e2
      · rw [if_neg h2] at hk
        exact key hk fun z => absurd z h2
/-- fewer locals are known -/
def lle : List (Option Value) → List (Option Value) → Prop
  | [], [] => True
  | none :: r, _ :: t => lle r t
  | some v :: r, some w :: t => v = w ∧ lle r t
  | _, _ => False
theorem lle_get : ∀ {a b : List (Option Value)}, lle a b → a.length = b.length ∧ ∀ (k : Nat) (v : Value), a[k]? = some (some v) → b[k]? = some (some v)
  | [], [], _ => ⟨rfl, fun _ _ h => h⟩
  | [], _ :: _, h => h.elim
  | none :: r, [], h => h.elim
  | some v :: r, [], h => h.elim
  | none :: r, x :: t, h => by
    obtain ⟨e, f⟩ := lle_get (a := r) (b := t) (by cases x <;> exact h)
    refine ⟨by simp [e], fun k v hk => ?_⟩
    cases k with
    | zero => cases hk
    | succ k => exact f k v hk
  | some v :: r, none :: t, h => h.elim
  | some v :: r, some w :: t, h => by
    obtain ⟨e, f⟩ := lle_get (a := r) (b := t) h.2
    refine ⟨by simp [e], fun k z hk => ?_⟩
    cases k with
    | zero => rw [← h.1]; exact hk
    | succ k => exact f k z hk
theorem lh.le {q : ev_T} {nL : Nat} {la lb : List (Option Value)} {ls : Array Slot} (h : lh q nL lb ls) (hl : lle la lb) : lh q nL la ls :=
  ⟨h.1, (lle_get hl).1.trans h.2.1, h.2.2.1, fun k v hk => h.2.2.2 k v ((lle_get hl).2 k v hk)⟩
def sx_B : List (List Int32) := [[100, 101, 102, 105, 110, 101], [112, 117, 115, 104, 100, 101, 102], [117, 110, 100, 101, 102, 105, 110, 101], [112, 111, 112, 100, 101, 102], [105, 102, 100, 101, 102], [105, 102, 101, 108, 115, 101], [101, 118, 97, 108], [105, 110, 99, 114], [100, 101, 99, 114], [108, 101, 110], [105, 110, 100, 101, 120], [115, 117, 98, 115, 116, 114], [115, 104, 105, 102, 116], [100, 110, 108], [100, 105, 118, 101, 114, 116], [117, 110, 100, 105, 118, 101, 114, 116], [99, 104, 97, 110, 103, 101, 113, 117, 111, 116, 101], [124, 124], [38, 38], [61, 61], [33, 61], [60, 61], [62, 61], [60, 60], [62, 62], [124], [94], [38], [60], [62], [43], [45], [42], [47], [37], [126], [33], [40]]
def sx_N : List String := ["define", "pushdef", "undefine", "popdef", "ifdef", "ifelse", "eval", "incr", "decr", "len", "index", "substr", "shift", "dnl", "divert", "undivert", "changequote", "||", "&&", "==", "!=", "<=", ">=", "<<", ">>", "|", "^", "&", "<", ">", "+", "-", "*", "/", "%", "~", "!", "("]
def op_N : List String := ["OR", "AND", "EQUAL", "UNEQUAL", "AT_MOST", "AT_LEAST", "SHIFT_LEFT", "SHIFT_RIGHT", "BIT_OR", "BIT_XOR", "BIT_AND", "LESS", "MORE", "ADD", "SUBTRACT", "MULTIPLY", "DIVIDE", "REMAINDER", "KEEP", "NEGATE", "INVERT", "NOT", "PARENTHESIS"]
def op_S : List Nat := [17, 18, 19, 20, 21, 22, 23, 24, 25, 26, 27, 28, 29, 30, 31, 32, 33, 34, 30, 31, 35, 36, 37]
def op_T : List Int32 := [1, 2, 6, 6, 7, 7, 8, 8, 3, 4, 5, 7, 7, 9, 9, 10, 10, 10, 11, 11, 11, 11, 0]
def sw_B : List Int32 := [1, 2, 3, 4, 5, 6, 7, 8, 9, 10, 11, 12, 13, 14, 15, 16, 17]
def sw_O : List Int32 := [4, 5, 9, 10, 13, 14, 15, 16, 6, 7, 8, 11, 12, 17, 18, 19, 20, 21, 0, 1, 2, 3, 0]
def rf_K : List Nat := [154, 156, 158, 160, 162, 164, 166, 168, 170, 172, 174, 176, 178, 180, 182, 184, 186]
/-- what stands still: the constants of the two kinds of words, their texts, the tables -/
def SF (q : ev_T) (U : State) (H : Heap) : Prop :=
  (∀ i, i < 17 → va_O "RescanMill$BuiltIn" (ev_ad q (1048576 + i)) (fun a => q.1 ≤ a) U H ∧ va_OF "java/lang/Enum" "ordinal" "I" (.int (nI i)) (ev_ad q (1048576 + i)) (fun a => q.1 ≤ a) U H ∧ va_OF "RescanMill$BuiltIn" "starred" "Z" (.int (if i < 13 then 1 else 0)) (ev_ad q (1048576 + i)) (fun a => q.1 ≤ a) U H ∧ va_OF "RescanMill$BuiltIn" "spelled" "Ljava/lang/String;" (.ref (ev_ad q (1048640 + i))) (ev_ad q (1048576 + i)) (fun a => q.1 ≤ a) U H) ∧
  (∀ i, i < 23 → va_O "RescanMill$Operator" (ev_ad q (1048600 + i)) (fun a => q.1 ≤ a) U H ∧ va_OF "java/lang/Enum" "ordinal" "I" (.int (nI i)) (ev_ad q (1048600 + i)) (fun a => q.1 ≤ a) U H ∧ va_OF "RescanMill$Operator" "strength" "I" (.int (op_T.getD i 0)) (ev_ad q (1048600 + i)) (fun a => q.1 ≤ a) U H ∧ va_OF "RescanMill$Operator" "sign" "Ljava/lang/String;" (.ref (ev_ad q (1048640 + op_S.getD i 0))) (ev_ad q (1048600 + i)) (fun a => q.1 ≤ a) U H ∧ va_Z "RescanMill$Operator" (op_N.getD i "") "LRescanMill$Operator;" (.ref (ev_ad q (1048600 + i))) (fun a => q.1 ≤ a) U H) ∧
  (∀ i, i < 38 → va_O "java/lang/String" (ev_ad q (1048640 + i)) (fun a => q.1 ≤ a) U H ∧ va_OF "java/lang/String" "coder" "B" (.int 0) (ev_ad q (1048640 + i)) (fun a => q.1 ≤ a) U H ∧ va_OF "java/lang/String" "value" "[B" (.ref (ev_ad q (1048700 + i))) (ev_ad q (1048640 + i)) (fun a => q.1 ≤ a) U H ∧ va_T .byte (ev_ad q (1048700 + i)) (sx_B.getD i []).length (fun j => .int ((sx_B.getD i []).getD j 0)) (fun a => q.1 ≤ a) U H) ∧
  (va_Z "RescanMill" "BUILT_INS" "[LRescanMill$BuiltIn;" (.ref (ev_ad q 1048750)) (fun a => q.1 ≤ a) U H ∧ va_T (.object "RescanMill$BuiltIn") (ev_ad q 1048750) 17 (fun j => .ref (ev_ad q (1048576 + j))) (fun a => q.1 ≤ a) U H) ∧
  (va_Z "RescanMill" "OPERATORS" "[LRescanMill$Operator;" (.ref (ev_ad q 1048751)) (fun a => q.1 ≤ a) U H ∧ va_T (.object "RescanMill$Operator") (ev_ad q 1048751) 23 (fun j => .ref (ev_ad q (1048600 + j))) (fun a => q.1 ≤ a) U H) ∧
  (va_Z "RescanMill$1" "$SwitchMap$RescanMill$BuiltIn" "[I" (.ref (ev_ad q 1048752)) (fun a => q.1 ≤ a) U H ∧ va_T .int (ev_ad q 1048752) 17 (fun j => .int (sw_B.getD j 0)) (fun a => q.1 ≤ a) U H) ∧
  (va_Z "RescanMill$1" "$SwitchMap$RescanMill$Operator" "[I" (.ref (ev_ad q 1048753)) (fun a => q.1 ≤ a) U H ∧ va_T .int (ev_ad q 1048753) 23 (fun j => .int (sw_O.getD j 0)) (fun a => q.1 ≤ a) U H) ∧
  (va_Z "java/lang/String" "COMPACT_STRINGS" "Z" (.int 1) (fun a => q.1 ≤ a) U H ∧ (va_Z "jdk/internal/util/Preconditions" "SIOOBE_FORMATTER" "Ljava/util/function/BiFunction;" .null (fun a => q.1 ≤ a) U H ∨ va_Z "jdk/internal/util/Preconditions" "SIOOBE_FORMATTER" "Ljava/util/function/BiFunction;" (.ref (ev_ad q 1048754)) (fun a => q.1 ≤ a) U H)) ∧
  (∀ i, i < 17 → vk_R "RescanMillModel" (rf_K.getD i 0) (sx_N.getD i "") (ev_ad q (1048640 + i)) U)
theorem SF_to {q : ev_T} {s U : State} {H : Heap} (h : SF q s s.heap) (hW : s.WarmedH U.vm) (hq : ∀ a : Nat, a < s.heap.size → ¬ q.1 ≤ a → H[a]? = s.heap[a]?) : SF q U H := by
  obtain ⟨a1, a2, a3, a4, a5, a6, a7, a8, a9⟩ := h
  have hv := hW.alike
  refine ⟨fun i hi => ?_, fun i hi => ?_, fun i hi => ?_, ⟨(va_Z.moved hv a4.1).kept hq, (va_T.moved hv a4.2).kept hq⟩, ⟨(va_Z.moved hv a5.1).kept hq, (va_T.moved hv a5.2).kept hq⟩, ⟨(va_Z.moved hv a6.1).kept hq, (va_T.moved hv a6.2).kept hq⟩, ⟨(va_Z.moved hv a7.1).kept hq, (va_T.moved hv a7.2).kept hq⟩, ⟨(va_Z.moved hv a8.1).kept hq, a8.2.imp (fun z => (va_Z.moved hv z).kept hq) (fun z => (va_Z.moved hv z).kept hq)⟩, fun i hi => (a9 i hi).warm hW⟩
  · obtain ⟨b1, b2, b3, b4⟩ := a1 i hi
    exact ⟨(va_O.moved hv b1).kept hq, (va_OF.moved hv b2).kept hq, (va_OF.moved hv b3).kept hq, (va_OF.moved hv b4).kept hq⟩
  · obtain ⟨b1, b2, b3, b4, b5⟩ := a2 i hi
    exact ⟨(va_O.moved hv b1).kept hq, (va_OF.moved hv b2).kept hq, (va_OF.moved hv b3).kept hq, (va_OF.moved hv b4).kept hq, (va_Z.moved hv b5).kept hq⟩
  · obtain ⟨b1, b2, b3, b4⟩ := a3 i hi
    exact ⟨(va_O.moved hv b1).kept hq, (va_OF.moved hv b2).kept hq, (va_OF.moved hv b3).kept hq, (va_T.moved hv b4).kept hq⟩
/-- what the tables say, and what stands still -/
def Bk (q : ev_T) (U : State) : Prop := va_K q.2.1 vwCl (ev_tys q) U ∧ (∀ w ∈ nstT, va_Nw w U) ∧ SF q U U.heap
def Bw (q : ev_T) (u : mm_T) (U : State) : Prop := WD q u U.heap ∧ Bk q U
def Qw (q : ev_T) (Q : Option Value → mm_T → Prop) : Array Value → State → Outcome → State → Prop := fun _ st oc t => (∃ (v : Option Value) (u : mm_T), oc = .returned (v.map (ev_v q)) ∧ Q v u ∧ WD q u t.heap) ∧ va_F (fun a => q.1 ≤ a) st t
def Cx (p : Program) (s : State) (m : MethodId) (args : Array Value) (c : Code) (cc : ByteArray) (nL : Nat) (own : String) (q : ev_T) : Prop :=
  p.tables.exec = Jvm.exec ∧ c.code = cc ∧ c.maxLocals = nL ∧ s.vm.findClass own = some m.cls ∧ (∀ w ∈ tbG, w.before args s = true) ∧ Bk q s ∧ q.1 ≤ s.heap.size
def Vv (p : Program) (l : Launch) (e : Env) (R : Room) (s : State) (m : MethodId) (args : Array Value) (below : List Frame) (meth : Method) (c : Code) (nL : Nat) (q : ev_T) (Qf : State → Prop) (pc : Nat) (la : List (Option Value)) (st : List Value) (u : mm_T) : Prop :=
  ∀ (ls : Array Slot) (H : Heap) (locs : List Loc) (cells slots : Nat), lh q nL la ls → WD q u H → va_S (fun a => q.1 ≤ a) s.heap H locs → cells + u.1 ≤ R.cells → slots + u.2.1 ≤ R.slots →
    W p l e R s m args below meth c H locs cells slots Qf (F0 m pc ls (st.map (ev_v q)))
section VK
variable {p : Program} {l : Launch} {e : Env} {R : Room} {s : State} {m : MethodId} {args : Array Value} {below : List Frame} {meth : Method} {c : Code} {nL : Nat} {q : ev_T} {Qf : State → Prop} {pc : Nat} {la : List (Option Value)} {st : List Value} {u : mm_T} {cc : ByteArray} {own : String}
theorem v_weak {lb : List (Option Value)} (hl : lle la lb) (k : Vv p l e R s m args below meth c nL q Qf pc la st u) : Vv p l e R s m args below meth c nL q Qf pc lb st u :=
  fun ls H locs cells slots h1 h2 h3 h4 h5 => k ls H locs cells slots (h1.le hl) h2 h3 h4 h5

theorem v_iconst (X : Cx p s m args c cc nL own q) {n : Int} {v : Int32} (hd : decode cc pc = .ok (.iconst n, 1)) (hv : Int32.ofInt n = v) (k : Vv p l e R s m args below meth c nL q Qf (pc + 1) la (.int v :: st) u) : Vv p l e R s m args below meth c nL q Qf pc la st u :=
  fun ls H locs cells slots h1 h2 h3 h4 h5 => lv_iconst X.1 X.2.1 hd hv (k ls H locs cells slots h1 h2 h3 h4 h5)
theorem v_bipush (X : Cx p s m args c cc nL own q) {n : Int} {v : Int32} (hd : decode cc pc = .ok (.bipush n, 2)) (hv : (Int8.ofInt n).toInt32 = v) (k : Vv p l e R s m args below meth c nL q Qf (pc + 2) la (.int v :: st) u) : Vv p l e R s m args below meth c nL q Qf pc la st u :=
  fun ls H locs cells slots h1 h2 h3 h4 h5 => lv_bipush X.1 X.2.1 hd hv (k ls H locs cells slots h1 h2 h3 h4 h5)
theorem v_sipush (X : Cx p s m args c cc nL own q) {n : Int} {v : Int32} (hd : decode cc pc = .ok (.sipush n, 3)) (hv : (Int16.ofInt n).toInt32 = v) (k : Vv p l e R s m args below meth c nL q Qf (pc + 3) la (.int v :: st) u) : Vv p l e R s m args below meth c nL q Qf pc la st u :=
  fun ls H locs cells slots h1 h2 h3 h4 h5 => lv_sipush X.1 X.2.1 hd hv (k ls H locs cells slots h1 h2 h3 h4 h5)
theorem v_lconst (X : Cx p s m args c cc nL own q) {n : Fin 2} {v : Int64} (hd : decode cc pc = .ok (.lconst n, 1)) (hv : Int64.ofNat (n : Nat) = v) (k : Vv p l e R s m args below meth c nL q Qf (pc + 1) la (.long v :: st) u) : Vv p l e R s m args below meth c nL q Qf pc la st u :=
  fun ls H locs cells slots h1 h2 h3 h4 h5 => lv_lconst X.1 X.2.1 hd hv (k ls H locs cells slots h1 h2 h3 h4 h5)
theorem v_null (X : Cx p s m args c cc nL own q)  (hd : decode cc pc = .ok (.aconst_null, 1)) (k : Vv p l e R s m args below meth c nL q Qf (pc + 1) la (.null :: st) u) : Vv p l e R s m args below meth c nL q Qf pc la st u :=
  fun ls H locs cells slots h1 h2 h3 h4 h5 => lv_null X.1 X.2.1 hd (k ls H locs cells slots h1 h2 h3 h4 h5)
theorem v_ldc (X : Cx p s m args c cc nL own q) {i : Nat} {v : Int32} (hd : decode cc pc = .ok (.ldc i, 2)) (hc : Cond.constant own i v ∈ tbG) (k : Vv p l e R s m args below meth c nL q Qf (pc + 2) la (.int v :: st) u) : Vv p l e R s m args below meth c nL q Qf pc la st u :=
  fun ls H locs cells slots h1 h2 h3 h4 h5 => lv_ldc X.1 X.2.1 X.2.2.2.1 (X.2.2.2.2.1 _ hc) hd (k ls H locs cells slots h1 h2 h3 h4 h5)
theorem v_ldcw (X : Cx p s m args c cc nL own q) {i : Nat} {v : Int32} (hd : decode cc pc = .ok (.ldc_w i, 3)) (hc : Cond.constant own i v ∈ tbG) (k : Vv p l e R s m args below meth c nL q Qf (pc + 3) la (.int v :: st) u) : Vv p l e R s m args below meth c nL q Qf pc la st u :=
  fun ls H locs cells slots h1 h2 h3 h4 h5 => lv_ldcw X.1 X.2.1 X.2.2.2.1 (X.2.2.2.2.1 _ hc) hd (k ls H locs cells slots h1 h2 h3 h4 h5)
theorem v_ldc2 (X : Cx p s m args c cc nL own q) {i : Nat} {v : Int64} (hd : decode cc pc = .ok (.ldc2_w i, 3)) (hc : Cond.constantLong own i v ∈ tbG) (k : Vv p l e R s m args below meth c nL q Qf (pc + 3) la (.long v :: st) u) : Vv p l e R s m args below meth c nL q Qf pc la st u :=
  fun ls H locs cells slots h1 h2 h3 h4 h5 => lv_ldc2 X.1 X.2.1 X.2.2.2.1 (X.2.2.2.2.1 _ hc) hd (k ls H locs cells slots h1 h2 h3 h4 h5)
theorem v_iload (X : Cx p s m args c cc nL own q) {i : Nat} {x : Int32} (hd : decode cc pc = .ok (.iload i, 2)) (hl : la[i]? = some (some (.int x))) (k : Vv p l e R s m args below meth c nL q Qf (pc + 2) la (.int x :: st) u) : Vv p l e R s m args below meth c nL q Qf pc la st u :=
  fun ls H locs cells slots h1 h2 h3 h4 h5 => lv_iload X.1 X.2.1 hd (h1.2.2.2 i _ hl) (k ls H locs cells slots h1 h2 h3 h4 h5)
theorem v_iload_n (X : Cx p s m args c cc nL own q) {n : Fin 4} {x : Int32} (hd : decode cc pc = .ok (.iload_n n, 1)) (hl : la[(n : Nat)]? = some (some (.int x))) (k : Vv p l e R s m args below meth c nL q Qf (pc + 1) la (.int x :: st) u) : Vv p l e R s m args below meth c nL q Qf pc la st u :=
  fun ls H locs cells slots h1 h2 h3 h4 h5 => lv_iload_n X.1 X.2.1 hd rfl (h1.2.2.2 _ _ hl) (k ls H locs cells slots h1 h2 h3 h4 h5)
theorem v_lload (X : Cx p s m args c cc nL own q) {i : Nat} {x : Int64} (hd : decode cc pc = .ok (.lload i, 2)) (hl : la[i]? = some (some (.long x))) (k : Vv p l e R s m args below meth c nL q Qf (pc + 2) la (.long x :: st) u) : Vv p l e R s m args below meth c nL q Qf pc la st u :=
  fun ls H locs cells slots h1 h2 h3 h4 h5 => lv_lload X.1 X.2.1 hd (h1.2.2.2 i _ hl) (k ls H locs cells slots h1 h2 h3 h4 h5)
theorem v_lload_n (X : Cx p s m args c cc nL own q) {n : Fin 4} {x : Int64} (hd : decode cc pc = .ok (.lload_n n, 1)) (hl : la[(n : Nat)]? = some (some (.long x))) (k : Vv p l e R s m args below meth c nL q Qf (pc + 1) la (.long x :: st) u) : Vv p l e R s m args below meth c nL q Qf pc la st u :=
  fun ls H locs cells slots h1 h2 h3 h4 h5 => lv_lload_n X.1 X.2.1 hd rfl (h1.2.2.2 _ _ hl) (k ls H locs cells slots h1 h2 h3 h4 h5)
theorem v_aload (X : Cx p s m args c cc nL own q) {i x : Nat} (hd : decode cc pc = .ok (.aload i, 2)) (hl : la[i]? = some (some (.ref x))) (k : Vv p l e R s m args below meth c nL q Qf (pc + 2) la (.ref x :: st) u) : Vv p l e R s m args below meth c nL q Qf pc la st u :=
  fun ls H locs cells slots h1 h2 h3 h4 h5 => lv_aload X.1 X.2.1 hd (h1.2.2.2 i _ hl) (k ls H locs cells slots h1 h2 h3 h4 h5)
theorem v_aload_n (X : Cx p s m args c cc nL own q) {n : Fin 4} {x : Nat} (hd : decode cc pc = .ok (.aload_n n, 1)) (hl : la[(n : Nat)]? = some (some (.ref x))) (k : Vv p l e R s m args below meth c nL q Qf (pc + 1) la (.ref x :: st) u) : Vv p l e R s m args below meth c nL q Qf pc la st u :=
  fun ls H locs cells slots h1 h2 h3 h4 h5 => lv_aload_n X.1 X.2.1 hd rfl (h1.2.2.2 _ _ hl) (k ls H locs cells slots h1 h2 h3 h4 h5)
theorem v_aload_nN (X : Cx p s m args c cc nL own q) {n : Fin 4} (hd : decode cc pc = .ok (.aload_n n, 1)) (hl : la[(n : Nat)]? = some (some .null)) (k : Vv p l e R s m args below meth c nL q Qf (pc + 1) la (.null :: st) u) : Vv p l e R s m args below meth c nL q Qf pc la st u :=
  fun ls H locs cells slots h1 h2 h3 h4 h5 => lv_aload_nN X.1 X.2.1 hd rfl (h1.2.2.2 _ _ hl) (k ls H locs cells slots h1 h2 h3 h4 h5)
theorem v_istore (X : Cx p s m args c cc nL own q) {i : Nat} {x : Int32} {lb : List (Option Value)} (hd : decode cc pc = .ok (.istore i, 2)) (hn : i < nL) (hs : st1 la i (.int x) = lb) (k : Vv p l e R s m args below meth c nL q Qf (pc + 2) lb st u) : Vv p l e R s m args below meth c nL q Qf pc la (.int x :: st) u :=
  fun ls H locs cells slots h1 h2 h3 h4 h5 => lv_istore X.1 X.2.1 hd (lh_all_has h1) hn rfl (fun ls' hl' => k ls' H locs cells slots (hs ▸ lh_st1 h1 hl') h2 h3 h4 h5)
theorem v_istore_n (X : Cx p s m args c cc nL own q) {n : Fin 4} {x : Int32} {lb : List (Option Value)} (hd : decode cc pc = .ok (.istore_n n, 1)) (hn : (n : Nat) < nL) (hs : st1 la (n : Nat) (.int x) = lb) (k : Vv p l e R s m args below meth c nL q Qf (pc + 1) lb st u) : Vv p l e R s m args below meth c nL q Qf pc la (.int x :: st) u :=
  fun ls H locs cells slots h1 h2 h3 h4 h5 => lv_istore_n X.1 X.2.1 hd rfl (lh_all_has h1) hn rfl (fun ls' hl' => k ls' H locs cells slots (hs ▸ lh_st1 h1 hl') h2 h3 h4 h5)
theorem v_astore (X : Cx p s m args c cc nL own q) {i : Nat} {x : Nat} {lb : List (Option Value)} (hd : decode cc pc = .ok (.astore i, 2)) (hn : i < nL) (hs : st1 la i (.ref x) = lb) (k : Vv p l e R s m args below meth c nL q Qf (pc + 2) lb st u) : Vv p l e R s m args below meth c nL q Qf pc la (.ref x :: st) u :=
  fun ls H locs cells slots h1 h2 h3 h4 h5 => lv_astore X.1 X.2.1 hd (lh_all_has h1) hn rfl (fun ls' hl' => k ls' H locs cells slots (hs ▸ lh_st1 h1 hl') h2 h3 h4 h5)
theorem v_astore_n (X : Cx p s m args c cc nL own q) {n : Fin 4} {x : Nat} {lb : List (Option Value)} (hd : decode cc pc = .ok (.astore_n n, 1)) (hn : (n : Nat) < nL) (hs : st1 la (n : Nat) (.ref x) = lb) (k : Vv p l e R s m args below meth c nL q Qf (pc + 1) lb st u) : Vv p l e R s m args below meth c nL q Qf pc la (.ref x :: st) u :=
  fun ls H locs cells slots h1 h2 h3 h4 h5 => lv_astore_n X.1 X.2.1 hd rfl (lh_all_has h1) hn rfl (fun ls' hl' => k ls' H locs cells slots (hs ▸ lh_st1 h1 hl') h2 h3 h4 h5)
theorem v_lstore (X : Cx p s m args c cc nL own q) {i : Nat} {x : Int64} {lb : List (Option Value)} (hd : decode cc pc = .ok (.lstore i, 2)) (hn : i + 1 < nL) (hs : st2 la i (.long x) = lb) (k : Vv p l e R s m args below meth c nL q Qf (pc + 2) lb st u) : Vv p l e R s m args below meth c nL q Qf pc la (.long x :: st) u :=
  fun ls H locs cells slots h1 h2 h3 h4 h5 => lv_lstore X.1 X.2.1 hd (lh_all_has h1) hn rfl (fun ls' hl' => k ls' H locs cells slots (hs ▸ lh_st2 h1 hl') h2 h3 h4 h5)
theorem v_lstore_n (X : Cx p s m args c cc nL own q) {n : Fin 4} {x : Int64} {lb : List (Option Value)} (hd : decode cc pc = .ok (.lstore_n n, 1)) (hn : (n : Nat) + 1 < nL) (hs : st2 la (n : Nat) (.long x) = lb) (k : Vv p l e R s m args below meth c nL q Qf (pc + 1) lb st u) : Vv p l e R s m args below meth c nL q Qf pc la (.long x :: st) u :=
  fun ls H locs cells slots h1 h2 h3 h4 h5 => lv_lstore_n X.1 X.2.1 hd rfl (lh_all_has h1) hn rfl (fun ls' hl' => k ls' H locs cells slots (hs ▸ lh_st2 h1 hl') h2 h3 h4 h5)
theorem v_iinc (X : Cx p s m args c cc nL own q) {i : Nat} {n : Int} {x v : Int32} {lb : List (Option Value)} (hd : decode cc pc = .ok (.iinc i n, 3)) (hl : la[i]? = some (some (.int x))) (hv : x + Int32.ofInt n = v) (hn : i < nL) (hs : st1 la i (.int v) = lb) (k : Vv p l e R s m args below meth c nL q Qf (pc + 3) lb st u) : Vv p l e R s m args below meth c nL q Qf pc la st u := by
  intro ls H locs cells slots h1 h2 h3 h4 h5
  obtain ⟨kk, hkk⟩ := List.getElem?_of_mem (lh_all_mem (h1.2.2.2 i _ hl))
  exact lv_iinc X.1 X.2.1 hd (lh_all_has h1) hkk hv hn rfl (fun ls' hl' => k ls' H locs cells slots (hs ▸ lh_st1 (v := .int v) h1 hl') h2 h3 h4 h5)
theorem v_iadd (X : Cx p s m args c cc nL own q) {x y : Int32} (hd : decode cc pc = .ok (.iadd, 1)) (k : Vv p l e R s m args below meth c nL q Qf (pc + 1) la (.int (x + y) :: st) u) : Vv p l e R s m args below meth c nL q Qf pc la (.int y :: .int x :: st) u :=
  fun ls H locs cells slots h1 h2 h3 h4 h5 => lv_iadd X.1 X.2.1 hd (k ls H locs cells slots h1 h2 h3 h4 h5)
theorem v_isub (X : Cx p s m args c cc nL own q) {x y : Int32} (hd : decode cc pc = .ok (.isub, 1)) (k : Vv p l e R s m args below meth c nL q Qf (pc + 1) la (.int (x - y) :: st) u) : Vv p l e R s m args below meth c nL q Qf pc la (.int y :: .int x :: st) u :=
  fun ls H locs cells slots h1 h2 h3 h4 h5 => lv_isub X.1 X.2.1 hd (k ls H locs cells slots h1 h2 h3 h4 h5)
theorem v_imul (X : Cx p s m args c cc nL own q) {x y : Int32} (hd : decode cc pc = .ok (.imul, 1)) (k : Vv p l e R s m args below meth c nL q Qf (pc + 1) la (.int (x * y) :: st) u) : Vv p l e R s m args below meth c nL q Qf pc la (.int y :: .int x :: st) u :=
  fun ls H locs cells slots h1 h2 h3 h4 h5 => lv_imul X.1 X.2.1 hd (k ls H locs cells slots h1 h2 h3 h4 h5)
theorem v_iand (X : Cx p s m args c cc nL own q) {x y : Int32} (hd : decode cc pc = .ok (.iand, 1)) (k : Vv p l e R s m args below meth c nL q Qf (pc + 1) la (.int (x &&& y) :: st) u) : Vv p l e R s m args below meth c nL q Qf pc la (.int y :: .int x :: st) u :=
  fun ls H locs cells slots h1 h2 h3 h4 h5 => lv_iand X.1 X.2.1 hd (k ls H locs cells slots h1 h2 h3 h4 h5)
theorem v_ior (X : Cx p s m args c cc nL own q) {x y : Int32} (hd : decode cc pc = .ok (.ior, 1)) (k : Vv p l e R s m args below meth c nL q Qf (pc + 1) la (.int (x ||| y) :: st) u) : Vv p l e R s m args below meth c nL q Qf pc la (.int y :: .int x :: st) u :=
  fun ls H locs cells slots h1 h2 h3 h4 h5 => lv_ior X.1 X.2.1 hd (k ls H locs cells slots h1 h2 h3 h4 h5)
theorem v_ixor (X : Cx p s m args c cc nL own q) {x y : Int32} (hd : decode cc pc = .ok (.ixor, 1)) (k : Vv p l e R s m args below meth c nL q Qf (pc + 1) la (.int (x ^^^ y) :: st) u) : Vv p l e R s m args below meth c nL q Qf pc la (.int y :: .int x :: st) u :=
  fun ls H locs cells slots h1 h2 h3 h4 h5 => lv_ixor X.1 X.2.1 hd (k ls H locs cells slots h1 h2 h3 h4 h5)
theorem v_idiv (X : Cx p s m args c cc nL own q) {x y : Int32} (hd : decode cc pc = .ok (.idiv, 1)) (hne : ¬ y = 0) (k : Vv p l e R s m args below meth c nL q Qf (pc + 1) la (.int (x / y) :: st) u) : Vv p l e R s m args below meth c nL q Qf pc la (.int y :: .int x :: st) u :=
  fun ls H locs cells slots h1 h2 h3 h4 h5 => lv_idiv X.1 X.2.1 hd hne (k ls H locs cells slots h1 h2 h3 h4 h5)
theorem v_irem (X : Cx p s m args c cc nL own q) {x y : Int32} (hd : decode cc pc = .ok (.irem, 1)) (hne : ¬ y = 0) (k : Vv p l e R s m args below meth c nL q Qf (pc + 1) la (.int (x - x / y * y) :: st) u) : Vv p l e R s m args below meth c nL q Qf pc la (.int y :: .int x :: st) u :=
  fun ls H locs cells slots h1 h2 h3 h4 h5 => lv_irem X.1 X.2.1 hd hne (k ls H locs cells slots h1 h2 h3 h4 h5)
theorem v_lrem (X : Cx p s m args c cc nL own q) {x y : Int64} (hd : decode cc pc = .ok (.lrem, 1)) (hne : ¬ y = 0) (k : Vv p l e R s m args below meth c nL q Qf (pc + 1) la (.long (x - x / y * y) :: st) u) : Vv p l e R s m args below meth c nL q Qf pc la (.long y :: .long x :: st) u :=
  fun ls H locs cells slots h1 h2 h3 h4 h5 => lv_lrem X.1 X.2.1 hd hne (k ls H locs cells slots h1 h2 h3 h4 h5)
theorem v_ishl (X : Cx p s m args c cc nL own q) {x y : Int32} (hd : decode cc pc = .ok (.ishl, 1)) (k : Vv p l e R s m args below meth c nL q Qf (pc + 1) la (.int (x <<< (y &&& 31)) :: st) u) : Vv p l e R s m args below meth c nL q Qf pc la (.int y :: .int x :: st) u :=
  fun ls H locs cells slots h1 h2 h3 h4 h5 => lv_ishl X.1 X.2.1 hd (k ls H locs cells slots h1 h2 h3 h4 h5)
theorem v_ishr (X : Cx p s m args c cc nL own q) {x y : Int32} (hd : decode cc pc = .ok (.ishr, 1)) (k : Vv p l e R s m args below meth c nL q Qf (pc + 1) la (.int (x >>> (y &&& 31)) :: st) u) : Vv p l e R s m args below meth c nL q Qf pc la (.int y :: .int x :: st) u :=
  fun ls H locs cells slots h1 h2 h3 h4 h5 => lv_ishr X.1 X.2.1 hd (k ls H locs cells slots h1 h2 h3 h4 h5)
theorem v_ineg (X : Cx p s m args c cc nL own q) {x : Int32} (hd : decode cc pc = .ok (.ineg, 1)) (k : Vv p l e R s m args below meth c nL q Qf (pc + 1) la (.int (-x) :: st) u) : Vv p l e R s m args below meth c nL q Qf pc la (.int x :: st) u :=
  fun ls H locs cells slots h1 h2 h3 h4 h5 => lv_ineg X.1 X.2.1 hd (k ls H locs cells slots h1 h2 h3 h4 h5)
theorem v_ladd (X : Cx p s m args c cc nL own q) {x y : Int64} (hd : decode cc pc = .ok (.ladd, 1)) (k : Vv p l e R s m args below meth c nL q Qf (pc + 1) la (.long (x + y) :: st) u) : Vv p l e R s m args below meth c nL q Qf pc la (.long y :: .long x :: st) u :=
  fun ls H locs cells slots h1 h2 h3 h4 h5 => lv_ladd X.1 X.2.1 hd (k ls H locs cells slots h1 h2 h3 h4 h5)
theorem v_lsub (X : Cx p s m args c cc nL own q) {x y : Int64} (hd : decode cc pc = .ok (.lsub, 1)) (k : Vv p l e R s m args below meth c nL q Qf (pc + 1) la (.long (x - y) :: st) u) : Vv p l e R s m args below meth c nL q Qf pc la (.long y :: .long x :: st) u :=
  fun ls H locs cells slots h1 h2 h3 h4 h5 => lv_lsub X.1 X.2.1 hd (k ls H locs cells slots h1 h2 h3 h4 h5)
theorem v_lmul (X : Cx p s m args c cc nL own q) {x y : Int64} (hd : decode cc pc = .ok (.lmul, 1)) (k : Vv p l e R s m args below meth c nL q Qf (pc + 1) la (.long (x * y) :: st) u) : Vv p l e R s m args below meth c nL q Qf pc la (.long y :: .long x :: st) u :=
  fun ls H locs cells slots h1 h2 h3 h4 h5 => lv_lmul X.1 X.2.1 hd (k ls H locs cells slots h1 h2 h3 h4 h5)
theorem v_land (X : Cx p s m args c cc nL own q) {x y : Int64} (hd : decode cc pc = .ok (.land, 1)) (k : Vv p l e R s m args below meth c nL q Qf (pc + 1) la (.long (x &&& y) :: st) u) : Vv p l e R s m args below meth c nL q Qf pc la (.long y :: .long x :: st) u :=
  fun ls H locs cells slots h1 h2 h3 h4 h5 => lv_land X.1 X.2.1 hd (k ls H locs cells slots h1 h2 h3 h4 h5)
theorem v_lor (X : Cx p s m args c cc nL own q) {x y : Int64} (hd : decode cc pc = .ok (.lor, 1)) (k : Vv p l e R s m args below meth c nL q Qf (pc + 1) la (.long (x ||| y) :: st) u) : Vv p l e R s m args below meth c nL q Qf pc la (.long y :: .long x :: st) u :=
  fun ls H locs cells slots h1 h2 h3 h4 h5 => lv_lor X.1 X.2.1 hd (k ls H locs cells slots h1 h2 h3 h4 h5)
theorem v_lxor (X : Cx p s m args c cc nL own q) {x y : Int64} (hd : decode cc pc = .ok (.lxor, 1)) (k : Vv p l e R s m args below meth c nL q Qf (pc + 1) la (.long (x ^^^ y) :: st) u) : Vv p l e R s m args below meth c nL q Qf pc la (.long y :: .long x :: st) u :=
  fun ls H locs cells slots h1 h2 h3 h4 h5 => lv_lxor X.1 X.2.1 hd (k ls H locs cells slots h1 h2 h3 h4 h5)
theorem v_ldiv (X : Cx p s m args c cc nL own q) {x y : Int64} (hd : decode cc pc = .ok (.ldiv, 1)) (hne : ¬ y = 0) (k : Vv p l e R s m args below meth c nL q Qf (pc + 1) la (.long (x / y) :: st) u) : Vv p l e R s m args below meth c nL q Qf pc la (.long y :: .long x :: st) u :=
  fun ls H locs cells slots h1 h2 h3 h4 h5 => lv_ldiv X.1 X.2.1 hd hne (k ls H locs cells slots h1 h2 h3 h4 h5)
theorem v_lneg (X : Cx p s m args c cc nL own q) {x : Int64} (hd : decode cc pc = .ok (.lneg, 1)) (k : Vv p l e R s m args below meth c nL q Qf (pc + 1) la (.long (-x) :: st) u) : Vv p l e R s m args below meth c nL q Qf pc la (.long x :: st) u :=
  fun ls H locs cells slots h1 h2 h3 h4 h5 => lv_lneg X.1 X.2.1 hd (k ls H locs cells slots h1 h2 h3 h4 h5)
theorem v_i2l (X : Cx p s m args c cc nL own q) {x : Int32} {v : Int64} (hd : decode cc pc = .ok (.i2l, 1)) (hv : x.toInt64 = v) (k : Vv p l e R s m args below meth c nL q Qf (pc + 1) la (.long v :: st) u) : Vv p l e R s m args below meth c nL q Qf pc la (.int x :: st) u :=
  fun ls H locs cells slots h1 h2 h3 h4 h5 => lv_i2l X.1 X.2.1 hd hv (k ls H locs cells slots h1 h2 h3 h4 h5)
theorem v_l2i (X : Cx p s m args c cc nL own q) {x : Int64} {v : Int32} (hd : decode cc pc = .ok (.l2i, 1)) (hv : x.toInt32 = v) (k : Vv p l e R s m args below meth c nL q Qf (pc + 1) la (.int v :: st) u) : Vv p l e R s m args below meth c nL q Qf pc la (.long x :: st) u :=
  fun ls H locs cells slots h1 h2 h3 h4 h5 => lv_l2i X.1 X.2.1 hd hv (k ls H locs cells slots h1 h2 h3 h4 h5)
theorem v_i2b (X : Cx p s m args c cc nL own q) {x : Int32} {v : Int32} (hd : decode cc pc = .ok (.i2b, 1)) (hv : x.toInt8.toInt32 = v) (k : Vv p l e R s m args below meth c nL q Qf (pc + 1) la (.int v :: st) u) : Vv p l e R s m args below meth c nL q Qf pc la (.int x :: st) u :=
  fun ls H locs cells slots h1 h2 h3 h4 h5 => lv_i2b X.1 X.2.1 hd hv (k ls H locs cells slots h1 h2 h3 h4 h5)
theorem v_i2c (X : Cx p s m args c cc nL own q) {x : Int32} {v : Int32} (hd : decode cc pc = .ok (.i2c, 1)) (hv : (x.toUInt32 % 65536).toInt32 = v) (k : Vv p l e R s m args below meth c nL q Qf (pc + 1) la (.int v :: st) u) : Vv p l e R s m args below meth c nL q Qf pc la (.int x :: st) u :=
  fun ls H locs cells slots h1 h2 h3 h4 h5 => lv_i2c X.1 X.2.1 hd hv (k ls H locs cells slots h1 h2 h3 h4 h5)
theorem v_lushr (X : Cx p s m args c cc nL own q) {x v : Int64} {y : Int32} (hd : decode cc pc = .ok (.lushr, 1)) (hv : (x.toUInt64 >>> (y.toInt64.toUInt64 &&& Int64.toUInt64 63)).toInt64 = v) (k : Vv p l e R s m args below meth c nL q Qf (pc + 1) la (.long v :: st) u) : Vv p l e R s m args below meth c nL q Qf pc la (.int y :: .long x :: st) u :=
  fun ls H locs cells slots h1 h2 h3 h4 h5 => lv_lushr X.1 X.2.1 hd hv (k ls H locs cells slots h1 h2 h3 h4 h5)
theorem v_lshl (X : Cx p s m args c cc nL own q) {x v : Int64} {y : Int32} (hd : decode cc pc = .ok (.lshl, 1)) (hv : x <<< (y.toInt64 &&& 63) = v) (k : Vv p l e R s m args below meth c nL q Qf (pc + 1) la (.long v :: st) u) : Vv p l e R s m args below meth c nL q Qf pc la (.int y :: .long x :: st) u :=
  fun ls H locs cells slots h1 h2 h3 h4 h5 => lv_lshl X.1 X.2.1 hd hv (k ls H locs cells slots h1 h2 h3 h4 h5)
theorem v_lshr (X : Cx p s m args c cc nL own q) {x v : Int64} {y : Int32} (hd : decode cc pc = .ok (.lshr, 1)) (hv : x >>> (y.toInt64 &&& 63) = v) (k : Vv p l e R s m args below meth c nL q Qf (pc + 1) la (.long v :: st) u) : Vv p l e R s m args below meth c nL q Qf pc la (.int y :: .long x :: st) u :=
  fun ls H locs cells slots h1 h2 h3 h4 h5 => lv_lshr X.1 X.2.1 hd hv (k ls H locs cells slots h1 h2 h3 h4 h5)
theorem v_dup (X : Cx p s m args c cc nL own q) {v : Value} (hd : decode cc pc = .ok (.dup, 1)) (hc : v.category = 1) (k : Vv p l e R s m args below meth c nL q Qf (pc + 1) la (v :: v :: st) u) : Vv p l e R s m args below meth c nL q Qf pc la (v :: st) u :=
  fun ls H locs cells slots h1 h2 h3 h4 h5 => lv_dup X.1 X.2.1 hd ((ev_cat q v).trans hc) (k ls H locs cells slots h1 h2 h3 h4 h5)
theorem v_pop (X : Cx p s m args c cc nL own q) {v : Value} (hd : decode cc pc = .ok (.pop, 1)) (hc : v.category = 1) (k : Vv p l e R s m args below meth c nL q Qf (pc + 1) la st u) : Vv p l e R s m args below meth c nL q Qf pc la (v :: st) u :=
  fun ls H locs cells slots h1 h2 h3 h4 h5 => lv_pop X.1 X.2.1 hd ((ev_cat q v).trans hc) (k ls H locs cells slots h1 h2 h3 h4 h5)
theorem v_dup2 (X : Cx p s m args c cc nL own q) {v w : Value} (hd : decode cc pc = .ok (.dup2, 1)) (hc : v.category = 1) (hw : w.category = 1) (k : Vv p l e R s m args below meth c nL q Qf (pc + 1) la (v :: w :: v :: w :: st) u) : Vv p l e R s m args below meth c nL q Qf pc la (v :: w :: st) u :=
  fun ls H locs cells slots h1 h2 h3 h4 h5 => lv_dup2_11 X.1 X.2.1 hd ((ev_cat q v).trans hc) ((ev_cat q w).trans hw) (k ls H locs cells slots h1 h2 h3 h4 h5)
theorem v_dup_x1 (X : Cx p s m args c cc nL own q) {v w : Value} (hd : decode cc pc = .ok (.dup_x1, 1)) (hc : v.category = 1) (hw : w.category = 1) (k : Vv p l e R s m args below meth c nL q Qf (pc + 1) la (v :: w :: v :: st) u) : Vv p l e R s m args below meth c nL q Qf pc la (v :: w :: st) u :=
  fun ls H locs cells slots h1 h2 h3 h4 h5 => lv_dup_x1 X.1 X.2.1 hd ((ev_cat q v).trans hc) ((ev_cat q w).trans hw) (k ls H locs cells slots h1 h2 h3 h4 h5)
theorem v_dup_x2 (X : Cx p s m args c cc nL own q) {v w z : Value} (hd : decode cc pc = .ok (.dup_x2, 1)) (hc : v.category = 1) (hw : w.category = 1) (hz : z.category = 1) (k : Vv p l e R s m args below meth c nL q Qf (pc + 1) la (v :: w :: z :: v :: st) u) : Vv p l e R s m args below meth c nL q Qf pc la (v :: w :: z :: st) u :=
  fun ls H locs cells slots h1 h2 h3 h4 h5 => lv_dup_x2 X.1 X.2.1 hd ((ev_cat q v).trans hc) ((ev_cat q w).trans hw) ((ev_cat q z).trans hz) (k ls H locs cells slots h1 h2 h3 h4 h5)
theorem v_goto (X : Cx p s m args c cc nL own q) {off : Int} {tgt : Nat} (hd : decode cc pc = .ok (.goto off, 3)) (ht : (pc : Int) + off = (tgt : Int)) (k : Vv p l e R s m args below meth c nL q Qf tgt la st u) : Vv p l e R s m args below meth c nL q Qf pc la st u :=
  fun ls H locs cells slots h1 h2 h3 h4 h5 => lv_goto X.1 X.2.1 hd ht (k ls H locs cells slots h1 h2 h3 h4 h5)
theorem v_if_eq (X : Cx p s m args c cc nL own q) {x : Int32} {off : Int} {tgt : Nat} (hd : decode cc pc = .ok (.ifCond .eq off, 3)) (ht : (pc : Int) + off = (tgt : Int)) (kt : x = 0 → Vv p l e R s m args below meth c nL q Qf tgt la st u) (kf : ¬ (x = 0) → Vv p l e R s m args below meth c nL q Qf (pc + 3) la st u) : Vv p l e R s m args below meth c nL q Qf pc la (.int x :: st) u :=
  fun ls H locs cells slots h1 h2 h3 h4 h5 => lv_if_eq X.1 X.2.1 hd ht (fun z => kt z ls H locs cells slots h1 h2 h3 h4 h5) (fun z => kf z ls H locs cells slots h1 h2 h3 h4 h5)
theorem v_icmp_eq (X : Cx p s m args c cc nL own q) {x y : Int32} {off : Int} {tgt : Nat} (hd : decode cc pc = .ok (.if_icmp .eq off, 3)) (ht : (pc : Int) + off = (tgt : Int)) (kt : x = y → Vv p l e R s m args below meth c nL q Qf tgt la st u) (kf : ¬ (x = y) → Vv p l e R s m args below meth c nL q Qf (pc + 3) la st u) : Vv p l e R s m args below meth c nL q Qf pc la (.int y :: .int x :: st) u :=
  fun ls H locs cells slots h1 h2 h3 h4 h5 => lv_icmp_eq X.1 X.2.1 hd ht (fun z => kt z ls H locs cells slots h1 h2 h3 h4 h5) (fun z => kf z ls H locs cells slots h1 h2 h3 h4 h5)
theorem v_if_ne (X : Cx p s m args c cc nL own q) {x : Int32} {off : Int} {tgt : Nat} (hd : decode cc pc = .ok (.ifCond .ne off, 3)) (ht : (pc : Int) + off = (tgt : Int)) (kt : ¬ x = 0 → Vv p l e R s m args below meth c nL q Qf tgt la st u) (kf : x = 0 → Vv p l e R s m args below meth c nL q Qf (pc + 3) la st u) : Vv p l e R s m args below meth c nL q Qf pc la (.int x :: st) u :=
  fun ls H locs cells slots h1 h2 h3 h4 h5 => lv_if_ne X.1 X.2.1 hd ht (fun z => kt z ls H locs cells slots h1 h2 h3 h4 h5) (fun z => kf z ls H locs cells slots h1 h2 h3 h4 h5)
theorem v_icmp_ne (X : Cx p s m args c cc nL own q) {x y : Int32} {off : Int} {tgt : Nat} (hd : decode cc pc = .ok (.if_icmp .ne off, 3)) (ht : (pc : Int) + off = (tgt : Int)) (kt : ¬ x = y → Vv p l e R s m args below meth c nL q Qf tgt la st u) (kf : x = y → Vv p l e R s m args below meth c nL q Qf (pc + 3) la st u) : Vv p l e R s m args below meth c nL q Qf pc la (.int y :: .int x :: st) u :=
  fun ls H locs cells slots h1 h2 h3 h4 h5 => lv_icmp_ne X.1 X.2.1 hd ht (fun z => kt z ls H locs cells slots h1 h2 h3 h4 h5) (fun z => kf z ls H locs cells slots h1 h2 h3 h4 h5)
theorem v_if_lt (X : Cx p s m args c cc nL own q) {x : Int32} {off : Int} {tgt : Nat} (hd : decode cc pc = .ok (.ifCond .lt off, 3)) (ht : (pc : Int) + off = (tgt : Int)) (kt : x < 0 → Vv p l e R s m args below meth c nL q Qf tgt la st u) (kf : ¬ (x < 0) → Vv p l e R s m args below meth c nL q Qf (pc + 3) la st u) : Vv p l e R s m args below meth c nL q Qf pc la (.int x :: st) u :=
  fun ls H locs cells slots h1 h2 h3 h4 h5 => lv_if_lt X.1 X.2.1 hd ht (fun z => kt z ls H locs cells slots h1 h2 h3 h4 h5) (fun z => kf z ls H locs cells slots h1 h2 h3 h4 h5)
theorem v_icmp_lt (X : Cx p s m args c cc nL own q) {x y : Int32} {off : Int} {tgt : Nat} (hd : decode cc pc = .ok (.if_icmp .lt off, 3)) (ht : (pc : Int) + off = (tgt : Int)) (kt : x < y → Vv p l e R s m args below meth c nL q Qf tgt la st u) (kf : ¬ (x < y) → Vv p l e R s m args below meth c nL q Qf (pc + 3) la st u) : Vv p l e R s m args below meth c nL q Qf pc la (.int y :: .int x :: st) u :=
  fun ls H locs cells slots h1 h2 h3 h4 h5 => lv_icmp_lt X.1 X.2.1 hd ht (fun z => kt z ls H locs cells slots h1 h2 h3 h4 h5) (fun z => kf z ls H locs cells slots h1 h2 h3 h4 h5)
theorem v_if_ge (X : Cx p s m args c cc nL own q) {x : Int32} {off : Int} {tgt : Nat} (hd : decode cc pc = .ok (.ifCond .ge off, 3)) (ht : (pc : Int) + off = (tgt : Int)) (kt : 0 ≤ x → Vv p l e R s m args below meth c nL q Qf tgt la st u) (kf : ¬ (0 ≤ x) → Vv p l e R s m args below meth c nL q Qf (pc + 3) la st u) : Vv p l e R s m args below meth c nL q Qf pc la (.int x :: st) u :=
  fun ls H locs cells slots h1 h2 h3 h4 h5 => lv_if_ge X.1 X.2.1 hd ht (fun z => kt z ls H locs cells slots h1 h2 h3 h4 h5) (fun z => kf z ls H locs cells slots h1 h2 h3 h4 h5)
theorem v_icmp_ge (X : Cx p s m args c cc nL own q) {x y : Int32} {off : Int} {tgt : Nat} (hd : decode cc pc = .ok (.if_icmp .ge off, 3)) (ht : (pc : Int) + off = (tgt : Int)) (kt : y ≤ x → Vv p l e R s m args below meth c nL q Qf tgt la st u) (kf : ¬ (y ≤ x) → Vv p l e R s m args below meth c nL q Qf (pc + 3) la st u) : Vv p l e R s m args below meth c nL q Qf pc la (.int y :: .int x :: st) u :=
  fun ls H locs cells slots h1 h2 h3 h4 h5 => lv_icmp_ge X.1 X.2.1 hd ht (fun z => kt z ls H locs cells slots h1 h2 h3 h4 h5) (fun z => kf z ls H locs cells slots h1 h2 h3 h4 h5)
theorem v_if_gt (X : Cx p s m args c cc nL own q) {x : Int32} {off : Int} {tgt : Nat} (hd : decode cc pc = .ok (.ifCond .gt off, 3)) (ht : (pc : Int) + off = (tgt : Int)) (kt : 0 < x → Vv p l e R s m args below meth c nL q Qf tgt la st u) (kf : ¬ (0 < x) → Vv p l e R s m args below meth c nL q Qf (pc + 3) la st u) : Vv p l e R s m args below meth c nL q Qf pc la (.int x :: st) u :=
  fun ls H locs cells slots h1 h2 h3 h4 h5 => lv_if_gt X.1 X.2.1 hd ht (fun z => kt z ls H locs cells slots h1 h2 h3 h4 h5) (fun z => kf z ls H locs cells slots h1 h2 h3 h4 h5)
theorem v_icmp_gt (X : Cx p s m args c cc nL own q) {x y : Int32} {off : Int} {tgt : Nat} (hd : decode cc pc = .ok (.if_icmp .gt off, 3)) (ht : (pc : Int) + off = (tgt : Int)) (kt : y < x → Vv p l e R s m args below meth c nL q Qf tgt la st u) (kf : ¬ (y < x) → Vv p l e R s m args below meth c nL q Qf (pc + 3) la st u) : Vv p l e R s m args below meth c nL q Qf pc la (.int y :: .int x :: st) u :=
  fun ls H locs cells slots h1 h2 h3 h4 h5 => lv_icmp_gt X.1 X.2.1 hd ht (fun z => kt z ls H locs cells slots h1 h2 h3 h4 h5) (fun z => kf z ls H locs cells slots h1 h2 h3 h4 h5)
theorem v_if_le (X : Cx p s m args c cc nL own q) {x : Int32} {off : Int} {tgt : Nat} (hd : decode cc pc = .ok (.ifCond .le off, 3)) (ht : (pc : Int) + off = (tgt : Int)) (kt : x ≤ 0 → Vv p l e R s m args below meth c nL q Qf tgt la st u) (kf : ¬ (x ≤ 0) → Vv p l e R s m args below meth c nL q Qf (pc + 3) la st u) : Vv p l e R s m args below meth c nL q Qf pc la (.int x :: st) u :=
  fun ls H locs cells slots h1 h2 h3 h4 h5 => lv_if_le X.1 X.2.1 hd ht (fun z => kt z ls H locs cells slots h1 h2 h3 h4 h5) (fun z => kf z ls H locs cells slots h1 h2 h3 h4 h5)
theorem v_icmp_le (X : Cx p s m args c cc nL own q) {x y : Int32} {off : Int} {tgt : Nat} (hd : decode cc pc = .ok (.if_icmp .le off, 3)) (ht : (pc : Int) + off = (tgt : Int)) (kt : x ≤ y → Vv p l e R s m args below meth c nL q Qf tgt la st u) (kf : ¬ (x ≤ y) → Vv p l e R s m args below meth c nL q Qf (pc + 3) la st u) : Vv p l e R s m args below meth c nL q Qf pc la (.int y :: .int x :: st) u :=
  fun ls H locs cells slots h1 h2 h3 h4 h5 => lv_icmp_le X.1 X.2.1 hd ht (fun z => kt z ls H locs cells slots h1 h2 h3 h4 h5) (fun z => kf z ls H locs cells slots h1 h2 h3 h4 h5)
theorem v_ifnull (X : Cx p s m args c cc nL own q) {x : Nat} {off : Int} (hd : decode cc pc = .ok (.ifnull off, 3)) (k : Vv p l e R s m args below meth c nL q Qf (pc + 3) la st u) : Vv p l e R s m args below meth c nL q Qf pc la (.ref x :: st) u :=
  fun ls H locs cells slots h1 h2 h3 h4 h5 => lv_ifnull X.1 X.2.1 hd (k ls H locs cells slots h1 h2 h3 h4 h5)
theorem v_ifnonnull (X : Cx p s m args c cc nL own q) {x : Nat} {off : Int} {tgt : Nat} (hd : decode cc pc = .ok (.ifnonnull off, 3)) (ht : (pc : Int) + off = (tgt : Int)) (k : Vv p l e R s m args below meth c nL q Qf tgt la st u) : Vv p l e R s m args below meth c nL q Qf pc la (.ref x :: st) u :=
  fun ls H locs cells slots h1 h2 h3 h4 h5 => lv_ifnonnull X.1 X.2.1 hd ht (k ls H locs cells slots h1 h2 h3 h4 h5)
theorem v_ifnullN (X : Cx p s m args c cc nL own q) {off : Int} {tgt : Nat} (hd : decode cc pc = .ok (.ifnull off, 3)) (ht : (pc : Int) + off = (tgt : Int)) (k : Vv p l e R s m args below meth c nL q Qf tgt la st u) : Vv p l e R s m args below meth c nL q Qf pc la (.null :: st) u :=
  fun ls H locs cells slots h1 h2 h3 h4 h5 => lv_ifnullN X.1 X.2.1 hd ht (k ls H locs cells slots h1 h2 h3 h4 h5)
theorem v_ifnonnullN (X : Cx p s m args c cc nL own q) {off : Int} (hd : decode cc pc = .ok (.ifnonnull off, 3)) (k : Vv p l e R s m args below meth c nL q Qf (pc + 3) la st u) : Vv p l e R s m args below meth c nL q Qf pc la (.null :: st) u :=
  fun ls H locs cells slots h1 h2 h3 h4 h5 => lv_ifnonnullN X.1 X.2.1 hd (k ls H locs cells slots h1 h2 h3 h4 h5)
theorem v_tableIn (X : Cx p s m args c cc nL own q) {dflt lo hi : Int} {offs : Array Int} {len : Nat} {x : Int32} {off : Int} {tgt : Nat} (hd : decode cc pc = .ok (.tableswitch dflt lo hi offs, len)) (g1 : ¬ x.toInt < lo) (g2 : ¬ hi < x.toInt) (ho : offs[(x.toInt - lo).toNat]? = some off) (ht : (pc : Int) + off = (tgt : Int)) (k : Vv p l e R s m args below meth c nL q Qf tgt la st u) : Vv p l e R s m args below meth c nL q Qf pc la (.int x :: st) u :=
  fun ls H locs cells slots h1 h2 h3 h4 h5 => lv_tableIn X.1 X.2.1 hd g1 g2 ho ht (k ls H locs cells slots h1 h2 h3 h4 h5)
theorem v_tableOut (X : Cx p s m args c cc nL own q) {dflt lo hi : Int} {offs : Array Int} {len : Nat} {x : Int32} {tgt : Nat} (hd : decode cc pc = .ok (.tableswitch dflt lo hi offs, len)) (g : x.toInt < lo ∨ hi < x.toInt) (ht : (pc : Int) + dflt = (tgt : Int)) (k : Vv p l e R s m args below meth c nL q Qf tgt la st u) : Vv p l e R s m args below meth c nL q Qf pc la (.int x :: st) u :=
  fun ls H locs cells slots h1 h2 h3 h4 h5 => lv_tableOut X.1 X.2.1 hd g ht (k ls H locs cells slots h1 h2 h3 h4 h5)
theorem v_lookup (X : Cx p s m args c cc nL own q) {dflt : Int} {ps : Array (Int × Int)} {len : Nat} {x : Int32} {off : Int} {tgt : Nat} (hd : decode cc pc = .ok (.lookupswitch dflt ps, len)) (hp : (ps.toList.zip (ps.toList.drop 1)).all (fun (a, next) => a.1 < next.1) = true) (ho : Op.lookupswitch.offset ps.toList dflt x.toInt = off) (ht : (pc : Int) + off = (tgt : Int)) (k : Vv p l e R s m args below meth c nL q Qf tgt la st u) : Vv p l e R s m args below meth c nL q Qf pc la (.int x :: st) u :=
  fun ls H locs cells slots h1 h2 h3 h4 h5 => lv_lookup X.1 X.2.1 hd hp ho ht (k ls H locs cells slots h1 h2 h3 h4 h5)
theorem v_lcmp (X : Cx p s m args c cc nL own q) {x y : Int64} (hd : decode cc pc = .ok (.lcmp, 1)) (k : Vv p l e R s m args below meth c nL q Qf (pc + 1) la (.int (lg_cmp x y) :: st) u) : Vv p l e R s m args below meth c nL q Qf pc la (.long y :: .long x :: st) u :=
  fun ls H locs cells slots h1 h2 h3 h4 h5 => W.lcmp X.1 X.2.1 hd (k ls H locs cells slots h1 h2 h3 h4 h5)
end VK
