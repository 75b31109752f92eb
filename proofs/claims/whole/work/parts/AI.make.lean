/-! making: the memory of a new mill and a new reference -/
def isCh (i : Nat) : Bool := decide ((31 ≤ i ∧ i < 982 ∧ (i - 31) % 3 ≠ 0) ∨ (987 ≤ i ∧ i < 997))
def iI0 (i k : Nat) : Int32 := if isCh i = true then (if k < 2 then -1 else 0) else if (i = 26 ∨ i = 983) ∧ k = 3 then -1 else if i = 7 ∧ k = 9 then 32768 else 0
def iR0 (i k : Nat) : Option Nat := if i = 7 ∧ k = 6 then some 14 else if i = 30 ∧ k < 317 then some (31 + 3 * k) else if i = 986 ∧ k < 10 then some (987 + k) else if i = 997 ∧ k = 0 then some 998 else none
theorem fR0_64 (a k : Nat) (h : 64 ≤ k) : fR0 a k = none := by
  rw [fR0]
  · split
    · rw [if_neg (by omega), if_neg (by omega)]
    · rfl
  all_goals (intros; omega)
theorem fR0_1022 (a k : Nat) (h : 1022 ≤ a) : fR0 a k = none := by
  rw [fR0]
  · rw [if_neg (by omega)]
  all_goals (intros; omega)
/-- it is as a making leaves it -/
def fz (w : mu_T) (a : Nat) : Prop := ∀ k, gI w a k = iI0 a k ∧ gR w a k = iR0 a k ∧ gF w a k = fR0 a k
def zr (g : mu_T) (a : Nat) : Prop := ∀ k, gI g a k = 0 ∧ gR g a k = none ∧ gF g a k = none
def eqA (g w : mu_T) (i : Nat) : Prop := ∀ k, gI w i k = gI g i k ∧ gR w i k = gR g i k ∧ gF w i k = gF g i k
theorem eqA.tr {g h w : mu_T} {i : Nat} (a : eqA g h i) (b : eqA h w i) : eqA g w i := fun k => ⟨(b k).1.trans (a k).1, (b k).2.1.trans (a k).2.1, (b k).2.2.trans (a k).2.2⟩
/-- a and what belongs to it is made -/
def mkM (g w : mu_T) (a c : Nat) : Prop := gN w = c ∧ (∀ i, (i < a ∨ c ≤ i) → eqA g w i) ∧ ∀ i, a ≤ i → i < c → fz w i
/-- a is being made; c objects are made; but for a and L all behind a is finished -/
def CT (g h : mu_T) (a c : Nat) (L : List Nat) : Prop := gN h = c ∧ a < c ∧ (∀ i, (i < a ∨ c ≤ i) → eqA g h i) ∧ ∀ i, a < i → i < c → i ∉ L → fz h i
def OB (h : mu_T) (a : Nat) (fi : Nat → Int32) (fr ff : Nat → Option Nat) : Prop := ∀ k, gI h a k = fi k ∧ gR h a k = fr k ∧ gF h a k = ff k
variable {g h w : mu_T} {a c : Nat} {L : List Nat} {fi : Nat → Int32} {fr ff : Nat → Option Nat}
theorem CT.start (hg : gN g = a + 1) (hz : zr g a) : CT g g a (a + 1) [] ∧ OB g a (fun _ => 0) (fun _ => none) (fun _ => none) := ⟨⟨hg, Nat.lt_succ_self _, fun i _ k => ⟨rfl, rfl, rfl⟩, fun i h1 h2 => by omega⟩, hz⟩
theorem CT.pI {k : Nat} {x : Int32} (t : CT g h a c L) : CT g (xI h a k x) a c L := ⟨t.1, t.2.1, fun i hi k2 => ⟨(gI_na (by have := t.2.1; omega)).trans (t.2.2.1 i hi k2).1, (t.2.2.1 i hi k2).2.1, (t.2.2.1 i hi k2).2.2⟩, fun i h1 h2 h3 k2 => ⟨(gI_na (by omega)).trans (t.2.2.2 i h1 h2 h3 k2).1, (t.2.2.2 i h1 h2 h3 k2).2.1, (t.2.2.2 i h1 h2 h3 k2).2.2⟩⟩
theorem CT.pR {k : Nat} {x : Option Nat} (t : CT g h a c L) : CT g (xR h a k x) a c L := ⟨t.1, t.2.1, fun i hi k2 => ⟨(t.2.2.1 i hi k2).1, (show gR (xR h a k x) i k2 = gR h i k2 from up2_na (by have := t.2.1; omega)).trans (t.2.2.1 i hi k2).2.1, (t.2.2.1 i hi k2).2.2⟩, fun i h1 h2 h3 k2 => ⟨(t.2.2.2 i h1 h2 h3 k2).1, (show gR (xR h a k x) i k2 = gR h i k2 from up2_na (by omega)).trans (t.2.2.2 i h1 h2 h3 k2).2.1, (t.2.2.2 i h1 h2 h3 k2).2.2⟩⟩
theorem CT.pF {k : Nat} {x : Option Nat} (t : CT g h a c L) : CT g (xF h a k x) a c L := ⟨t.1, t.2.1, fun i hi k2 => ⟨(t.2.2.1 i hi k2).1, (t.2.2.1 i hi k2).2.1, (show gF (xF h a k x) i k2 = gF h i k2 from up2_na (by have := t.2.1; omega)).trans (t.2.2.1 i hi k2).2.2⟩, fun i h1 h2 h3 k2 => ⟨(t.2.2.2 i h1 h2 h3 k2).1, (t.2.2.2 i h1 h2 h3 k2).2.1, (show gF (xF h a k x) i k2 = gF h i k2 from up2_na (by omega)).trans (t.2.2.2 i h1 h2 h3 k2).2.2⟩⟩
theorem OB.pI {k : Nat} {x : Int32} (o : OB h a fi fr ff) : OB (xI h a k x) a (va_up fi k x) fr ff := fun j => ⟨by
  by_cases e : j = k
  · rw [e, gI_eq, va_up_eq]
  · rw [gI_nk e, va_up_ne' e]; exact (o j).1, (o j).2.1, (o j).2.2⟩
theorem OB.pR {k : Nat} {x : Option Nat} (o : OB h a fi fr ff) : OB (xR h a k x) a fi (va_up fr k x) ff := fun j => ⟨(o j).1, by
  by_cases e : j = k
  · rw [e, va_up_eq]; exact up2_eq _ _ _ _
  · rw [va_up_ne' e]; exact (show gR (xR h a k x) a j = gR h a j from up2_nk e).trans (o j).2.1, (o j).2.2⟩
theorem OB.pF {k : Nat} {x : Option Nat} (o : OB h a fi fr ff) : OB (xF h a k x) a fi fr (va_up ff k x) := fun j => ⟨(o j).1, (o j).2.1, by
  by_cases e : j = k
  · rw [e, va_up_eq]; exact up2_eq _ _ _ _
  · rw [va_up_ne' e]; exact (show gF (xF h a k x) a j = gF h a j from up2_nk e).trans (o j).2.2⟩
/-- one more cell, c, all zero -/
theorem CT.new (t : CT g h a c L) : CT g (c + 1, h.2) a (c + 1) (c :: L) := ⟨rfl, by have := t.2.1; omega, fun i hi => t.2.2.1 i (by omega), fun i h1 h2 h3 => t.2.2.2 i h1 (by have : i ≠ c := fun e => h3 (by rw [e]; exact List.mem_cons_self ..); omega) (fun e => h3 (List.mem_cons_of_mem _ e))⟩
theorem OB.new (o : OB h a fi fr ff) : OB (c + 1, h.2) a fi fr ff := o
/-- what lies at c is made -/
theorem CT.sub {c2 : Nat} (t : CT g h a (c + 1) (c :: L)) (m : mkM h w c c2) (hc : c < c2) (hL : ∀ i ∈ L, i < c) (ha : a < c) : CT g w a c2 L := ⟨m.1, by omega, fun i hi => by
    by_cases e : i = c
    · omega
    · exact (t.2.2.1 i (by omega)).tr (m.2.1 i (by omega)), fun i h1 h2 h3 => by
    by_cases e : i < c
    · intro k
      obtain ⟨p1, p2, p3⟩ := m.2.1 i (Or.inl e) k
      obtain ⟨q1, q2, q3⟩ := t.2.2.2 i h1 (by omega) (fun z => by rcases List.mem_cons.mp z with z | z; omega; exact h3 z) k
      exact ⟨p1.trans q1, p2.trans q2, p3.trans q3⟩
    · exact m.2.2 i (by omega) h2⟩
theorem OB.sub {c2 : Nat} (o : OB h a fi fr ff) (m : mkM h w c c2) (ha : a < c) : OB w a fi fr ff := fun k => by
  obtain ⟨p1, p2, p3⟩ := m.2.1 a (Or.inl ha) k
  exact ⟨p1.trans (o k).1, p2.trans (o k).2.1, p3.trans (o k).2.2⟩
/-- a row of zeros -/
theorem CT.row (t : CT g h a (c + 1) (c :: L)) (hz : ∀ k, gI h c k = 0 ∧ gR h c k = none ∧ gF h c k = none) (h0 : ∀ k, iI0 c k = 0 ∧ iR0 c k = none ∧ fR0 c k = none) : CT g h a (c + 1) L := ⟨t.1, t.2.1, t.2.2.1, fun i h1 h2 h3 => by
  by_cases e : i = c
  · rw [e]; exact fun k => ⟨(hz k).1.trans (h0 k).1.symm, (hz k).2.1.trans (h0 k).2.1.symm, (hz k).2.2.trans (h0 k).2.2.symm⟩
  · exact t.2.2.2 i h1 h2 (fun z => by rcases List.mem_cons.mp z with z | z; exact e z; exact h3 z)⟩
theorem CT.fin (t : CT g h a c []) (o : OB h a fi fr ff) (hi : ∀ k, fi k = iI0 a k) (hr : ∀ k, fr k = iR0 a k) (hf : ∀ k, ff k = fR0 a k) : mkM g h a c := ⟨t.1, t.2.2.1, fun i h1 h2 => by
  by_cases e : i = a
  · rw [e]; exact fun k => ⟨(o k).1.trans (hi k), (o k).2.1.trans (hr k), (o k).2.2.trans (hf k)⟩
  · exact t.2.2.2 i (by omega) h2 List.not_mem_nil⟩
/-- two functions agree if they agree up to 64 and are empty from there on -/
theorem f64 {f f2 : Nat → Option Nat} (h1 : ∀ k, k < 64 → f k = f2 k) (h2 : ∀ k, 64 ≤ k → f k = none) (h3 : ∀ k, 64 ≤ k → f2 k = none) : ∀ k, f k = f2 k := fun k => by
  by_cases e : k < 64
  · exact h1 k e
  · rw [h2 k (by omega), h3 k (by omega)]
theorem u64 {f : Nat → Option Nat} {j : Nat} {x : Option Nat} (h : ∀ k, 64 ≤ k → f k = none) (hj : j < 64) : ∀ k, 64 ≤ k → va_up f j x k = none := fun k hk => by rw [va_up_ne' (by omega)]; exact h k hk
section VM
variable {p : Program} {l : Launch} {e : Env} {R : Room} {s : State} {m : MethodId} {args : Array Value} {below : List Frame} {meth : Method} {cd : Code} {nL : Nat} {q : ev_T} {Qf : State → Prop} {pc : Nat} {la : List (Option Value)} {st : List Value} {cc : ByteArray} {own : String} {bc bs i N t : Nat}
theorem CT.z (T : CT g h a i L) (hz : ∀ j, a < j → zr g j) {j : Nat} (hj : i ≤ j) : zr h j := fun k => by
  obtain ⟨p1, p2, p3⟩ := T.2.2.1 j (Or.inr hj) k
  obtain ⟨q1, q2, q3⟩ := hz j (by have := T.2.1; omega) k
  exact ⟨p1.trans q1, p2.trans q2, p3.trans q3⟩
theorem v_naC (X : Cx p s m args cd cc nL own q) {aT : ArrayType} {n : Int32} (hd : decode cc pc = .ok (.newarray aT, 2)) (hty : tyT[t]? = some (newarray.typeOf aT)) (ht : t < 3) (hRA : ∀ U cA, va_RA U cA (newarray.typeOf aT) → U.vm.findClass ("[" ++ (newarray.typeOf aT).toString) = some cA) (hdf : defaultValue (newarray.typeOf aT) = .int 0) (harr : Cond.arrayClass (newarray.typeOf aT) ∈ tbG) (hn : ¬ n < 0) (hN : n.toNatClampNeg = N) (hby : N * componentBytes (newarray.typeOf aT) ≤ 536870912) (hk : kdT i = .inr (t, N)) (hc : i < 1048576) (h0 : ∀ k, iI0 i k = 0 ∧ iR0 i k = none ∧ fR0 i k = none) (hz : ∀ j, a < j → zr g j) (T : CT g h a i L) (O : OB h a fi fr ff)
    (kk : ∀ h2, CT g h2 a (i + 1) L → OB h2 a fi fr ff → Vv p l e R s m args below meth cd nL q Qf (pc + 2) la (.ref i :: st) (bc, bs, h2)) : Vv p l e R s m args below meth cd nL q Qf pc la (.int n :: st) (bc + 1, bs + N, h) := by
  have e1 : gN h = i := T.1
  refine v_newarr X hd hty ht hRA hdf harr hn hN hby (by rw [e1]; exact hk) (by rw [e1]; exact hc) (Nat.le_add_left _ _) (Nat.le_add_left _ _) (fun _ => ?_)
  rw [Nat.add_sub_cancel, Nat.add_sub_cancel, e1]
  exact kk _ (T.new.row (fun k => T.z hz (Nat.le_refl _) k) h0) O
theorem v_anC (X : Cx p s m args cd cc nL own q) {idx : Nat} {n : Int32} {C : String} (hd : decode cc pc = .ok (.anewarray idx, 3)) (hty : tyT[t]? = some (.object C)) (ht : ¬ t < 3) (hlk : Cond.classLink own idx C ∈ tbG) (hov : Cond.arrayOver (.object C) ∈ nstT) (hn : ¬ n < 0) (hN : n.toNatClampNeg = N) (hby : N * 4 ≤ 536870912) (hk : kdT i = .inr (t, N)) (hc : i < 1048576) (hz : ∀ j, a < j → zr g j) (T : CT g h a i L) (O : OB h a fi fr ff)
    (kk : ∀ h2, CT g h2 a (i + 1) (i :: L) → OB h2 a fi fr ff → zr h2 i → Vv p l e R s m args below meth cd nL q Qf (pc + 3) la (.ref i :: st) (bc, bs, h2)) : Vv p l e R s m args below meth cd nL q Qf pc la (.int n :: st) (bc + 1, bs + N, h) := by
  have e1 : gN h = i := T.1
  refine v_anewarr X hd hty ht hlk hov hn hN hby (by rw [e1]; exact hk) (by rw [e1]; exact hc) (Nat.le_add_left _ _) (Nat.le_add_left _ _) (fun _ => ?_)
  rw [Nat.add_sub_cancel, Nat.add_sub_cancel, e1]
  exact kk _ T.new O (T.z hz (Nat.le_refl _))
theorem v_nwC (X : Cx p s m args cd cc nL own q) {idx ci : Nat} {C : String} {Tt : u_T} (hd : decode cc pc = .ok (.new idx, 3)) (hcl : vwCl[ci]? = some (C, Tt, nfT ci)) (hlk : Cond.classLink own idx C ∈ tbG) (hins : Cond.instantiable C (nfT ci) ∈ tbG) (hini : Cond.initialized C ∈ tbG) (hin : ∀ w ∈ u_ws C Tt (nfT ci), w ∈ tbG) (hC : CK ci) (hdf : ∀ j, j < nfT ci → defaultValue (ftT ci j) = if fsT ci j = 0 then .int 0 else .null) (hk : kdT i = .inl ci) (hc : i < 1048576) (hz : ∀ j, a < j → zr g j) (T : CT g h a i L) (O : OB h a fi fr ff)
    (kk : ∀ h2, CT g h2 a (i + 1) (i :: L) → OB h2 a fi fr ff → gN h2 = i + 1 → (∀ j, i ≤ j → zr h2 j) → h2.2 = h.2 → Vv p l e R s m args below meth cd nL q Qf (pc + 3) la (.ref i :: st) (bc, bs, h2)) : Vv p l e R s m args below meth cd nL q Qf pc la st (bc + 1, bs + nfT ci, h) := by
  have e1 : gN h = i := T.1
  refine v_new X hd hcl hlk hins hini hin hC hdf (by rw [e1]; exact hk) (by rw [e1]; exact hc) (Nat.le_add_left _ _) (Nat.le_add_left _ _) (fun _ => ?_)
  rw [Nat.add_sub_cancel, Nat.add_sub_cancel, e1]
  exact kk _ T.new O rfl (fun j hj => T.z hz hj) rfl
theorem v_icC (X : Cx p s m args cd cc nL own q) {idx n d bc1 bs1 i2 : Nat} {M : mt_T} {As st0 : List Value} (hM : Ctr l q M d (.ref i :: As) (bc1, bs1, h) (fun v w => v = none ∧ mkM h w.2.2 i i2)) (hd : decode cc pc = .ok (.invokespecial idx, 3)) (hL : ML own idx M) (hK : MK M n) (hret : M.2.2.2 = none) (hin : M.1.name = "<init>") (hI : Cond.instanceMethod M.1 ∈ tbG) (hst : st0 = As.reverse ++ .ref i :: st) (hn : As.length = n) (hcat : (st.map fun v => v.category).sum ≤ 8) (hRf : d + 1 ≤ R.frames) (hRl : 48 * (d + 1) ≤ R.locals) (hi2 : i < i2) (hLi : ∀ j ∈ L, j < i) (hai : a < i) (T : CT g h a (i + 1) (i :: L)) (O : OB h a fi fr ff)
    (kk : ∀ w, CT g w a i2 L → OB w a fi fr ff → mkM h w i i2 → Vv p l e R s m args below meth cd nL q Qf (pc + 3) la st (bc, bs, w)) : Vv p l e R s m args below meth cd nL q Qf pc la st0 (bc + bc1, bs + bs1, h) := by
  refine v_invI (u := (bc + bc1, bs + bs1, h)) X hM hd hL hK hret hin hI (by show i < gN h; rw [T.1]; omega) hst hn hcat hRf hRl (Nat.le_add_left _ _) (Nat.le_add_left _ _) ?_
  rintro v w ⟨rfl, hm⟩
  have e : ((bc + bc1, bs + bs1, h) : mm_T).1 - bc1 = bc ∧ ((bc + bc1, bs + bs1, h) : mm_T).2.1 - bs1 = bs := ⟨Nat.add_sub_cancel .., Nat.add_sub_cancel ..⟩
  rw [e.1, e.2]
  exact kk w.2.2 (T.sub hm hi2 hLi hai) (O.sub hm hai) hm
theorem v_pFC (X : Cx p s m args cd cc nL own q) {idx ci k b : Nat} (hd : decode cc pc = .ok (.putfield idx, 3)) (hF : FL own idx ci k) (hC : CK ci) (hs : fsT ci k = 2) (hk : kdT a = .inl ci) (ht : (∃ D, ftT ci k = .object D) ∨ ∃ D, ftT ci k = .array D) (hin2 : meth.name = "<init>") (hown : vwCl[ci]?.map (fun z => z.1) = some own) (T : CT g h a i L) (O : OB h a fi fr ff)
    (kk : ∀ h2, CT g h2 a i L → OB h2 a fi fr (va_up ff k (some b)) → (∀ r, r ≠ a → eqA h h2 r) → Vv p l e R s m args below meth cd nL q Qf (pc + 3) la st (bc, bs, h2)) : Vv p l e R s m args below meth cd nL q Qf pc la (.ref b :: .ref a :: st) (bc, bs, h) :=
  v_putF X hd hF hC hs hk (by show a < gN h; rw [T.1]; exact T.2.1) ht hin2 hown (kk _ T.pF O.pF (fun r hr k => ⟨rfl, rfl, up2_na hr⟩))
theorem v_pIC (X : Cx p s m args cd cc nL own q) {idx ci k : Nat} {x : Int32} (hd : decode cc pc = .ok (.putfield idx, 3)) (hF : FL own idx ci k) (hC : CK ci) (hs : fsT ci k = 0) (hk : kdT a = .inl ci) (hn : narrow (ftT ci k) (.int x) = .int x) (hfit : fits (ftT ci k) (.int x) = true) (T : CT g h a i L) (O : OB h a fi fr ff)
    (kk : ∀ h2, CT g h2 a i L → OB h2 a (va_up fi k x) fr ff → Vv p l e R s m args below meth cd nL q Qf (pc + 3) la st (bc, bs, h2)) : Vv p l e R s m args below meth cd nL q Qf pc la (.int x :: .ref a :: st) (bc, bs, h) :=
  v_putI X hd hF hC hs hk (by show a < gN h; rw [T.1]; exact T.2.1) hn hfit (kk _ T.pI O.pI)
theorem v_pRC (X : Cx p s m args cd cc nL own q) {idx ci k b : Nat} (hd : decode cc pc = .ok (.putfield idx, 3)) (hF : FL own idx ci k) (hC : CK ci) (hs : fsT ci k = 1) (hk : kdT a = .inl ci) (ht : ∃ D, ftT ci k = .object D) (T : CT g h a i L) (O : OB h a fi fr ff)
    (kk : ∀ h2, CT g h2 a i L → OB h2 a fi (va_up fr k (some b)) ff → Vv p l e R s m args below meth cd nL q Qf (pc + 3) la st (bc, bs, h2)) : Vv p l e R s m args below meth cd nL q Qf pc la (.ref b :: .ref a :: st) (bc, bs, h) :=
  v_putR (r := some b) X hd hF hC hs hk (by show a < gN h; rw [T.1]; exact T.2.1) ht (kk _ T.pR O.pR)
end VM
