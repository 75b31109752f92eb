/-! arrays and new cells -/
theorem WD.ast {q : ev_T} {u : mm_T} {H H1 : Heap} {a t len j : Nat} {x : Int32} (h : WD q u H) (ha : a < mN u) (hk : kdT a = .inr (t, len)) (ht : t < 3) (hB : mmB (wI u a j x)) (e : H1[q.1 + a]? = some ((vp_cell (q.2.2.1 t) (len, .inl (mI u a))).setSlot j (.int x))) (z : H1.size = H.size) (oq : ∀ y : Nat, y ≠ q.1 + a → H1[y]? = H[y]?) : WD q (wI u a j x) H1 := by
  refine h.upd rfl hB (mmZ_I h.2.2.2.2 ha) ?_ (fun i hi => mm_E_I hi) z oq
  rw [mm_ai hk ht]
  show H1[q.1 + a]? = some (vp_cell _ _)
  rw [e, vp_cell_i, vp_cell_i, arrV_store]
  congr 2
  funext y
  by_cases hy : y = j
  · subst hy; simp [updV, wI, mI, up2]
  · simp [updV, wI, mI, up2, hy]
theorem WD.astR {q : ev_T} {u : mm_T} {H H1 : Heap} {a t len j : Nat} {r : Option Nat} (h : WD q u H) (ha : a < mN u) (hk : kdT a = .inr (t, len)) (ht : ¬ t < 3) (e : H1[q.1 + a]? = some ((vp_cell (q.2.2.1 t) (len, .inr (.inr (.inr (.inr (fun j => (mR u a j).map (ev_ad q))))))).setSlot j (va_rf (r.map (ev_ad q))))) (z : H1.size = H.size) (oq : ∀ y : Nat, y ≠ q.1 + a → H1[y]? = H[y]?) : WD q (wR u a j r) H1 := by
  refine h.upd rfl (mmB_R h.2.2.2.1) (mmZ_R h.2.2.2.2 ha) ?_ (fun i hi => mm_E_R hi) z oq
  rw [mm_ar hk ht]
  show H1[q.1 + a]? = some (vp_cell _ _)
  rw [e, vp_cell_q, vp_cell_q, arrV_store]
  congr 2
  funext y
  by_cases hy : y = j
  · subst hy; simp [updV, wR, mR, up2]
  · simp [updV, wR, mR, up2, hy]
section VA
variable {p : Program} {l : Launch} {e : Env} {R : Room} {s : State} {m : MethodId} {args : Array Value} {below : List Frame} {meth : Method} {c : Code} {nL : Nat} {q : ev_T} {Qf : State → Prop} {pc : Nat} {la : List (Option Value)} {st : List Value} {bc bs : Nat} {g : mu_T} {cc : ByteArray} {own : String}
theorem v_alen (X : Cx p s m args c cc nL own q) {a t len : Nat} {v : Int32} {ty : FieldType} (hd : decode cc pc = .ok (.arraylength, 1)) (hk : kdT a = .inr (t, len)) (hty : tyT[t]? = some ty) (ha : a < gN g) (hv : Int32.ofNat len = v) (kk : Vv p l e R s m args below meth c nL q Qf (pc + 1) la (.int v :: st) (bc, bs, g)) : Vv p l e R s m args below meth c nL q Qf pc la (.ref a :: st) (bc, bs, g) := by
  intro ls H locs cells slots h1 h2 h3 h4 h5
  show W p l e R s m args below meth c H locs cells slots Qf (F0 m pc ls (.ref (ev_ad q a) :: st.map (ev_v q)))
  rw [h2.ref ha]
  by_cases ht : t < 3
  · exact va_alen (x := (len, .inl (gI g a))) X.1 X.2.1 X.2.2.2.2.2.1.1 h2.2.1 a t (by rw [mm_at ha, mm_ai hk ht]) (ev_ty hty) hv hd (kk ls H locs cells slots h1 h2 h3 h4 h5)
  · exact va_alen (x := (len, .inr (.inr (.inr (.inr (fun j => (gR g a j).map (ev_ad q))))))) X.1 X.2.1 X.2.2.2.2.2.1.1 h2.2.1 a t (by rw [mm_at ha, mm_ar hk ht]) (ev_ty hty) hv hd (kk ls H locs cells slots h1 h2 h3 h4 h5)
theorem v_iald (X : Cx p s m args c cc nL own q) {a len : Nat} {i : Int32} (hd : decode cc pc = .ok (.iaload, 1)) (hk : kdT a = .inr (0, len)) (ha : a < gN g) (hin : vp_in i len) (kk : Vv p l e R s m args below meth c nL q Qf (pc + 1) la (.int (gI g a i.toNatClampNeg) :: st) (bc, bs, g)) : Vv p l e R s m args below meth c nL q Qf pc la (.int i :: .ref a :: st) (bc, bs, g) := by
  intro ls H locs cells slots h1 h2 h3 h4 h5
  show W p l e R s m args below meth c H locs cells slots Qf (F0 m pc ls (.int i :: .ref (ev_ad q a) :: st.map (ev_v q)))
  rw [h2.ref ha]
  exact va_iald X.1 X.2.1 X.2.2.2.2.2.1.1 h2.2.1 a 0 (by rw [mm_at ha, mm_ai hk (by decide)]) (ev_ty rfl) hin hd (kk ls H locs cells slots h1 h2 h3 h4 h5)
theorem v_bald (X : Cx p s m args c cc nL own q) {a len : Nat} {i : Int32} (hd : decode cc pc = .ok (.baload, 1)) (hk : kdT a = .inr (1, len)) (ha : a < gN g) (hin : vp_in i len) (kk : Vv p l e R s m args below meth c nL q Qf (pc + 1) la (.int (gI g a i.toNatClampNeg) :: st) (bc, bs, g)) : Vv p l e R s m args below meth c nL q Qf pc la (.int i :: .ref a :: st) (bc, bs, g) := by
  intro ls H locs cells slots h1 h2 h3 h4 h5
  show W p l e R s m args below meth c H locs cells slots Qf (F0 m pc ls (.int i :: .ref (ev_ad q a) :: st.map (ev_v q)))
  rw [h2.ref ha]
  exact va_bald X.1 X.2.1 X.2.2.2.2.2.1.1 h2.2.1 a 1 (by rw [mm_at ha, mm_ai hk (by decide)]) (ev_ty rfl) hin hd (kk ls H locs cells slots h1 h2 h3 h4 h5)
theorem v_zald (X : Cx p s m args c cc nL own q) {a len : Nat} {i : Int32} (hd : decode cc pc = .ok (.baload, 1)) (hk : kdT a = .inr (2, len)) (ha : a < gN g) (hin : vp_in i len) (kk : Vv p l e R s m args below meth c nL q Qf (pc + 1) la (.int (gI g a i.toNatClampNeg) :: st) (bc, bs, g)) : Vv p l e R s m args below meth c nL q Qf pc la (.int i :: .ref a :: st) (bc, bs, g) := by
  intro ls H locs cells slots h1 h2 h3 h4 h5
  show W p l e R s m args below meth c H locs cells slots Qf (F0 m pc ls (.int i :: .ref (ev_ad q a) :: st.map (ev_v q)))
  rw [h2.ref ha]
  exact va_zald X.1 X.2.1 X.2.2.2.2.2.1.1 h2.2.1 a 2 (by rw [mm_at ha, mm_ai hk (by decide)]) (ev_ty rfl) hin hd (kk ls H locs cells slots h1 h2 h3 h4 h5)
theorem v_aald (X : Cx p s m args c cc nL own q) {a t len : Nat} {i : Int32} {C : String} {r : Option Nat} (hd : decode cc pc = .ok (.aaload, 1)) (hk : kdT a = .inr (t, len)) (hty : tyT[t]? = some (.object C)) (ht : ¬ t < 3) (ha : a < gN g) (hin : vp_in i len) (hr : gR g a i.toNatClampNeg = r) (kk : Vv p l e R s m args below meth c nL q Qf (pc + 1) la (va_rf r :: st) (bc, bs, g)) : Vv p l e R s m args below meth c nL q Qf pc la (.int i :: .ref a :: st) (bc, bs, g) := by
  intro ls H locs cells slots h1 h2 h3 h4 h5
  show W p l e R s m args below meth c H locs cells slots Qf (F0 m pc ls (.int i :: .ref (ev_ad q a) :: st.map (ev_v q)))
  rw [h2.ref ha]
  refine va_aldq X.1 X.2.1 X.2.2.2.2.2.1.1 h2.2.1 a t (by rw [mm_at ha, mm_ar hk ht]) (ev_ty hty) hin hd ?_
  show W p l e R s m args below meth c H locs cells slots Qf (F0 m (pc + 1) ls (va_rf ((gR g a i.toNatClampNeg).map (ev_ad q)) :: st.map (ev_v q)))
  rw [hr, ← ev_rf]
  exact kk ls H locs cells slots h1 h2 h3 h4 h5
theorem v_iast (X : Cx p s m args c cc nL own q) {a len : Nat} {i x : Int32} (hd : decode cc pc = .ok (.iastore, 1)) (hk : kdT a = .inr (0, len)) (ha : a < gN g) (hin : vp_in i len) (kk : Vv p l e R s m args below meth c nL q Qf (pc + 1) la st (bc, bs, xI g a i.toNatClampNeg x)) : Vv p l e R s m args below meth c nL q Qf pc la (.int x :: .int i :: .ref a :: st) (bc, bs, g) := by
  intro ls H locs cells slots h1 h2 h3 h4 h5
  show W p l e R s m args below meth c H locs cells slots Qf (F0 m pc ls (.int x :: .int i :: .ref (ev_ad q a) :: st.map (ev_v q)))
  rw [h2.ref ha]
  have hat : H[q.1 + a]? = some (vp_cell (q.2.2.1 0) (len, .inl (gI g a))) := by have := h2.at ha; rw [mm_ai hk (by decide)] at this; exact this
  refine W.iast X.1 X.2.1 hat ((X.2.2.2.2.2.1.1.2 0 _ (ev_ty rfl)).1 len (fun j => .int (gI g a j))) (fun z => by cases z) (by show ¬ (i < 0 ∨ (arrV _ _ _).slots.size ≤ _); rw [arrV_size]; exact hin) rfl rfl hd fun H1 e1 z oq => ?_
  exact kk ls H1 _ cells slots h1 (h2.ast ha hk (by decide) (mmB_In h2.2.2.2.1 (fun n z => by rw [hk] at z; cases z)) e1 z oq) (h3.put z oq (Nat.le_add_right _ _)) h4 h5
theorem v_bast (X : Cx p s m args c cc nL own q) {a len : Nat} {i x y : Int32} (hd : decode cc pc = .ok (.bastore, 1)) (hk : kdT a = .inr (1, len)) (ha : a < gN g) (hin : vp_in i len) (hy : x.toInt8.toInt32 = y) (kk : Vv p l e R s m args below meth c nL q Qf (pc + 1) la st (bc, bs, xI g a i.toNatClampNeg y)) : Vv p l e R s m args below meth c nL q Qf pc la (.int x :: .int i :: .ref a :: st) (bc, bs, g) := by
  subst hy
  intro ls H locs cells slots h1 h2 h3 h4 h5
  show W p l e R s m args below meth c H locs cells slots Qf (F0 m pc ls (.int x :: .int i :: .ref (ev_ad q a) :: st.map (ev_v q)))
  rw [h2.ref ha]
  have hat : H[q.1 + a]? = some (vp_cell (q.2.2.1 1) (len, .inl (gI g a))) := by have := h2.at ha; rw [mm_ai hk (by decide)] at this; exact this
  refine W.bast X.1 X.2.1 hat ((X.2.2.2.2.2.1.1.2 1 _ (ev_ty rfl)).1 len (fun j => .int (gI g a j))) (fun z => by cases z) (by show ¬ (i < 0 ∨ (arrV _ _ _).slots.size ≤ _); rw [arrV_size]; exact hin) rfl rfl hd fun H1 e1 z oq => ?_
  exact kk ls H1 _ cells slots h1 (h2.ast ha hk (by decide) (mmB_Ib h2.2.2.2.1 (by simp)) e1 z oq) (h3.put z oq (Nat.le_add_right _ _)) h4 h5
theorem v_zast (X : Cx p s m args c cc nL own q) {a len : Nat} {i x y : Int32} (hd : decode cc pc = .ok (.bastore, 1)) (hk : kdT a = .inr (2, len)) (ha : a < gN g) (hin : vp_in i len) (hy : x &&& 1 = y) (kk : Vv p l e R s m args below meth c nL q Qf (pc + 1) la st (bc, bs, xI g a i.toNatClampNeg y)) : Vv p l e R s m args below meth c nL q Qf pc la (.int x :: .int i :: .ref a :: st) (bc, bs, g) := by
  subst hy
  intro ls H locs cells slots h1 h2 h3 h4 h5
  show W p l e R s m args below meth c H locs cells slots Qf (F0 m pc ls (.int x :: .int i :: .ref (ev_ad q a) :: st.map (ev_v q)))
  rw [h2.ref ha]
  have hat : H[q.1 + a]? = some (vp_cell (q.2.2.1 2) (len, .inl (gI g a))) := by have := h2.at ha; rw [mm_ai hk (by decide)] at this; exact this
  refine W.zast X.1 X.2.1 hat ((X.2.2.2.2.2.1.1.2 2 _ (ev_ty rfl)).1 len (fun j => .int (gI g a j))) (fun z => by cases z) (by show ¬ (i < 0 ∨ (arrV _ _ _).slots.size ≤ _); rw [arrV_size]; exact hin) rfl rfl hd fun H1 e1 z oq => ?_
  exact kk ls H1 _ cells slots h1 (h2.ast ha hk (by decide) (mmB_In h2.2.2.2.1 (fun n z => by rw [hk] at z; cases z)) e1 z oq) (h3.put z oq (Nat.le_add_right _ _)) h4 h5
/-- a cell of ours into a row of references -/
theorem v_aast (X : Cx p s m args c cc nL own q) {a b t len ci : Nat} {i : Int32} {r : vw_C} (hd : decode cc pc = .ok (.aastore, 1)) (hk : kdT a = .inr (t, len)) (hty : tyT[t]? = some (.object r.1)) (ht : ¬ t < 3) (ha : a < gN g) (hin : vp_in i len) (hkb : kdT b = .inl ci) (hcb : vwCl[ci]? = some r) (hb : b < gN g) (kk : Vv p l e R s m args below meth c nL q Qf (pc + 1) la st (bc, bs, xR g a i.toNatClampNeg (some b))) : Vv p l e R s m args below meth c nL q Qf pc la (.ref b :: .int i :: .ref a :: st) (bc, bs, g) := by
  intro ls H locs cells slots h1 h2 h3 h4 h5
  show W p l e R s m args below meth c H locs cells slots Qf (F0 m pc ls (.ref (ev_ad q b) :: .int i :: .ref (ev_ad q a) :: st.map (ev_v q)))
  rw [h2.ref ha, h2.ref hb]
  have hat : H[q.1 + a]? = some (vp_cell (q.2.2.1 t) (len, .inr (.inr (.inr (.inr (fun j => (gR g a j).map (ev_ad q))))))) := by have := h2.at ha; rw [mm_ar hk ht] at this; exact this
  have hlt : i.toNatClampNeg < len := Nat.not_le.mp fun z => hin (Or.inr z)
  have h0 : ¬ i < 0 := fun z => hin (Or.inl z)
  have hbt := h2.at hb
  rw [mm_ob hkb] at hbt
  obtain ⟨r', hr', cellV, g1, g2, g3, -⟩ := hbt
  have hcls := (X.2.2.2.2.2.1.1.1 ci r hcb).2
  obtain ⟨kA, comp, k1, k2, k3, -⟩ := (X.2.2.2.2.2.1.1.2 t _ (ev_ty hty)).2
  have hcomp : comp = q.2.1.1 ci := Option.some.inj (k3.symm.trans hcls.1)
  subst hcomp
  obtain ⟨kC, hkC, -⟩ := id hcls.2
  refine W.aast X.1 X.2.1 hat (fun z h => by cases h) (fun h => by cases h) k1 k2 rfl hkC ⟨h0, by show _ < (arrV _ _ _).slots.size; rw [arrV_size]; exact hlt⟩ g1 (fun z h => by rw [g3] at h; cases h) (by rw [g2]; exact hkC) (by rw [g2]; exact va_assign hcls) rfl rfl hd fun H1 e1 z oq => ?_
  exact kk ls H1 _ cells slots h1 (h2.astR ha hk ht (by rw [e1]; show _ = some (Cell.setSlot _ _ (.ref (ev_ad q b))); rw [h2.ref hb]) z oq) (h3.put z oq (Nat.le_add_right _ _)) h4 h5
theorem v_aastN (X : Cx p s m args c cc nL own q) {a t len : Nat} {i : Int32} {C : String} (hd : decode cc pc = .ok (.aastore, 1)) (hk : kdT a = .inr (t, len)) (hty : tyT[t]? = some (.object C)) (ht : ¬ t < 3) (ha : a < gN g) (hin : vp_in i len) (kk : Vv p l e R s m args below meth c nL q Qf (pc + 1) la st (bc, bs, xR g a i.toNatClampNeg none)) : Vv p l e R s m args below meth c nL q Qf pc la (.null :: .int i :: .ref a :: st) (bc, bs, g) := by
  intro ls H locs cells slots h1 h2 h3 h4 h5
  show W p l e R s m args below meth c H locs cells slots Qf (F0 m pc ls (.null :: .int i :: .ref (ev_ad q a) :: st.map (ev_v q)))
  rw [h2.ref ha]
  have hat : H[q.1 + a]? = some (vp_cell (q.2.2.1 t) (len, .inr (.inr (.inr (.inr (fun j => (gR g a j).map (ev_ad q))))))) := by have := h2.at ha; rw [mm_ar hk ht] at this; exact this
  refine va_WaastN (C := C) X.1 X.2.1 hat ((X.2.2.2.2.2.1.1.2 t _ (ev_ty hty)).1 len (fun j => va_rf ((gR g a j).map (ev_ad q)))) (fun h => by cases h) (by show ¬ (i < 0 ∨ (arrV _ _ _).slots.size ≤ _); rw [arrV_size]; exact hin) rfl rfl hd fun H1 e1 z oq => ?_
  exact kk ls H1 _ cells slots h1 (h2.astR (r := none) ha hk ht e1 z oq) (h3.put z oq (Nat.le_add_right _ _)) h4 h5
/-- a new row of ints, bytes or flags -/
theorem v_newarr (X : Cx p s m args c cc nL own q) {aT : ArrayType} {t N : Nat} {n : Int32} (hd : decode cc pc = .ok (.newarray aT, 2)) (hty : tyT[t]? = some (newarray.typeOf aT)) (ht : t < 3) (hRA : ∀ U cA, va_RA U cA (newarray.typeOf aT) → U.vm.findClass ("[" ++ (newarray.typeOf aT).toString) = some cA) (hdf : defaultValue (newarray.typeOf aT) = .int 0) (harr : Cond.arrayClass (newarray.typeOf aT) ∈ tbG) (hn : ¬ n < 0) (hN : n.toNatClampNeg = N) (hby : N * componentBytes (newarray.typeOf aT) ≤ 536870912) (hk : kdT (gN g) = .inr (t, N)) (hc : gN g < 1048576) (h1b : 1 ≤ bc) (h2b : N ≤ bs)
    (kk : (∀ j, gI g (gN g) j = 0) → Vv p l e R s m args below meth c nL q Qf (pc + 2) la (.ref (gN g) :: st) (bc - 1, bs - N, gN g + 1, g.2)) : Vv p l e R s m args below meth c nL q Qf pc la (.int n :: st) (bc, bs, g) := by
  intro ls H locs cells slots h1 h2 h3 h4 h5
  have h4 : cells + bc ≤ R.cells := h4
  have h5 : slots + bs ≤ R.slots := h5
  show W p l e R s m args below meth c H locs cells slots Qf (F0 m pc ls (.int n :: st.map (ev_v q)))
  have hz : ∀ j, gI g (gN g) j = 0 := fun j => (h2.2.2.2.2 (gN g) (Nat.le_refl _) j).1
  refine va_newaK X.1 X.2.1 (X.2.2.2.2.1 _ harr) rfl hd rfl hn hN hby (by omega) (by omega) rfl fun H1 cA e1 z1 o1 hAr hNm => ?_
  have hcA : cA = q.2.2.1 t := Option.some.inj (hNm.symm.trans (hRA s _ (X.2.2.2.2.2.1.1.2 t _ (ev_ty hty)).2))
  subst hcA
  have hW : WD q (bc - 1, bs - N, gN g + 1, g.2) H1 := by
    refine h2.new rfl hc h2.2.2.2.1 (fun i hi k => h2.2.2.2.2 i (Nat.le_of_succ_le hi) k) ?_ (fun i _ => rfl) z1 (fun x hx => o1 x hx)
    rw [mm_ai hk ht, ← h2.1]
    show H1[H.size]? = some (vp_cell _ _)
    rw [e1, vp_cell_i, hdf]
    congr 2
    funext j
    exact congrArg Value.int (hz j).symm
  have k2 := kk hz ls H1 locs (cells + 1) (slots + N) h1 hW ⟨Nat.le_trans h3.1 (by omega), fun x g1 g2 => (o1 x (Nat.lt_of_lt_of_le g1 h3.1)).trans (h3.2.1 x g1 g2), h3.2.2⟩ (by show cells + 1 + (bc - 1) ≤ _; omega) (by show slots + N + (bs - N) ≤ _; omega)
  have k3 : W p l e R s m args below meth c H1 locs (cells + 1) (slots + N) Qf (F0 m (pc + 2) ls (.ref (ev_ad q (gN g)) :: st.map (ev_v q))) := k2
  rw [ev_lo hc, ← h2.1] at k3
  exact k3
/-- a new row of references -/
theorem v_anewarr (X : Cx p s m args c cc nL own q) {idx t N : Nat} {n : Int32} {C : String} (hd : decode cc pc = .ok (.anewarray idx, 3)) (hty : tyT[t]? = some (.object C)) (ht : ¬ t < 3) (hlk : Cond.classLink own idx C ∈ tbG) (hov : Cond.arrayOver (.object C) ∈ nstT) (hn : ¬ n < 0) (hN : n.toNatClampNeg = N) (hby : N * 4 ≤ 536870912) (hk : kdT (gN g) = .inr (t, N)) (hc : gN g < 1048576) (h1b : 1 ≤ bc) (h2b : N ≤ bs)
    (kk : (∀ j, gR g (gN g) j = none) → Vv p l e R s m args below meth c nL q Qf (pc + 3) la (.ref (gN g) :: st) (bc - 1, bs - N, gN g + 1, g.2)) : Vv p l e R s m args below meth c nL q Qf pc la (.int n :: st) (bc, bs, g) := by
  subst hN
  intro ls H locs cells slots h1 h2 h3 h4 h5
  have h4 : cells + bc ≤ R.cells := h4
  have h5 : slots + bs ≤ R.slots := h5
  show W p l e R s m args below meth c H locs cells slots Qf (F0 m pc ls (.int n :: st.map (ev_v q)))
  have hz : ∀ j, gR g (gN g) j = none := fun j => (h2.2.2.2.2 (gN g) (Nat.le_refl _) j).2.1
  refine W.anew X.1 X.2.1 X.2.2.2.1 (X.2.2.2.2.1 _ hlk) (va_AO.use (X.2.2.2.2.2.1.2.1 _ hov)) rfl hd rfl hn hby (by omega) (by omega) fun cA kA comp f1 f2 f3 f4 => ?_
  obtain ⟨kA', comp', k1, k2, k3, k4⟩ := (X.2.2.2.2.2.1.1.2 t _ (ev_ty hty)).2
  have hcA : cA = q.2.2.1 t := Option.some.inj (f1.symm.trans k4)
  subst hcA
  generalize hH1 : H.push ({ cls := q.2.2.1 t, slots := Array.replicate n.toNatClampNeg .null, vm := .none } : Cell) = H1
  have z1 : H1.size = H.size + 1 := by rw [← hH1, Array.size_push]
  have e1 : H1[H.size]? = some (arrV (q.2.2.1 t) n.toNatClampNeg (fun _ => .null)) := by rw [← hH1, Array.getElem?_push_size, ← arrV_new]
  have o1 : ∀ x : Nat, x < H.size → H1[x]? = H[x]? := fun x hx => by rw [← hH1, Array.getElem?_push, if_neg (Nat.ne_of_lt hx)]
  have hW : WD q (bc - 1, bs - n.toNatClampNeg, gN g + 1, g.2) H1 := by
    refine h2.new rfl hc h2.2.2.2.1 (fun i hi k => h2.2.2.2.2 i (Nat.le_of_succ_le hi) k) ?_ (fun i _ => rfl) z1 (fun x hx => o1 x hx)
    rw [mm_ar hk ht, ← h2.1]
    show H1[H.size]? = some (vp_cell _ _)
    rw [e1, vp_cell_q]
    congr 2
    funext j
    show Value.null = va_rf ((gR g (gN g) j).map (ev_ad q))
    rw [hz j]
    rfl
  have k5 : W p l e R s m args below meth c H1 locs (cells + 1) (slots + n.toNatClampNeg) Qf (F0 m (pc + 3) ls (.ref (ev_ad q (gN g)) :: st.map (ev_v q))) := kk hz ls H1 locs (cells + 1) (slots + n.toNatClampNeg) h1 hW ⟨Nat.le_trans h3.1 (by omega), fun x g1 g2 => (o1 x (Nat.lt_of_lt_of_le g1 h3.1)).trans (h3.2.1 x g1 g2), h3.2.2⟩ (by show cells + 1 + (bc - 1) ≤ _; omega) (by show slots + n.toNatClampNeg + (bs - n.toNatClampNeg) ≤ _; omega)
  rw [ev_lo hc, ← h2.1] at k5
  exact k5
/-- a new object -/
theorem v_new (X : Cx p s m args c cc nL own q) {idx ci : Nat} {C : String} {T : u_T} (hd : decode cc pc = .ok (.new idx, 3)) (hcl : vwCl[ci]? = some (C, T, nfT ci)) (hlk : Cond.classLink own idx C ∈ tbG) (hins : Cond.instantiable C (nfT ci) ∈ tbG) (hini : Cond.initialized C ∈ tbG) (hin : ∀ w ∈ u_ws C T (nfT ci), w ∈ tbG) (hC : CK ci) (hdf : ∀ j, j < nfT ci → defaultValue (ftT ci j) = if fsT ci j = 0 then .int 0 else .null) (hk : kdT (gN g) = .inl ci) (hc : gN g < 1048576) (h1b : 1 ≤ bc) (h2b : nfT ci ≤ bs)
    (kk : (∀ j, gI g (gN g) j = 0 ∧ gR g (gN g) j = none ∧ gF g (gN g) j = none) → Vv p l e R s m args below meth c nL q Qf (pc + 3) la (.ref (gN g) :: st) (bc - 1, bs - nfT ci, gN g + 1, g.2)) : Vv p l e R s m args below meth c nL q Qf pc la st (bc, bs, g) := by
  intro ls H locs cells slots h1 h2 h3 h4 h5
  have h4 : cells + bc ≤ R.cells := h4
  have h5 : slots + bs ≤ R.slots := h5
  have hz : ∀ j, gI g (gN g) j = 0 ∧ gR g (gN g) j = none ∧ gF g (gN g) j = none := fun j => h2.2.2.2.2 (gN g) (Nat.le_refl _) j
  have hKn := X.2.2.2.2.2.1.1.1 ci _ hcl
  refine W.newcK X.1 X.2.1 X.2.2.2.1 (X.2.2.2.2.1 _ hlk) (X.2.2.2.2.1 _ hins) (X.2.2.2.2.1 _ hini) rfl hd (by omega) (by omega) hKn.2.1 rfl fun H1 kC hkC e1 z1 o1 => ?_
  have hW : WD q (bc - 1, bs - nfT ci, gN g + 1, g.2) H1 := by
    refine h2.new rfl hc h2.2.2.2.1 (fun i hi k => h2.2.2.2.2 i (Nat.le_of_succ_le hi) k) ?_ (fun i _ => rfl) z1 (fun x hx => o1 x hx)
    rw [mm_ob hk, ← h2.1]
    refine ⟨_, hcl, (u_born (ftT ci) X.2.2.2.2.1 hin hKn hkC e1 (hC C T hcl).1).to (fun j hj => ?_)⟩
    rw [vp_V_map _ hj, hdf j hj]
    show _ = ev_v q (mm_av (bc, bs, g) ci (gN g) j)
    simp only [mm_av]
    by_cases h0 : fsT ci j = 0
    · rw [if_pos h0, h0]
      show _ = ev_v q (.int (gI g (gN g) j))
      show _ = Value.int (gI g (gN g) j)
      rw [(hz j).1]
    · rw [if_neg h0]
      split
      · rename_i h; exact absurd h h0
      · show _ = ev_v q (va_rf (gR g (gN g) j))
        rw [(hz j).2.1]; rfl
      · show _ = ev_v q (va_rf (gF g (gN g) j))
        rw [(hz j).2.2]; rfl
  have k5 : W p l e R s m args below meth c H1 locs (cells + 1) (slots + nfT ci) Qf (F0 m (pc + 3) ls (.ref (ev_ad q (gN g)) :: st.map (ev_v q))) := kk hz ls H1 locs (cells + 1) (slots + nfT ci) h1 hW ⟨Nat.le_trans h3.1 (by omega), fun x g1 g2 => (o1 x (Nat.lt_of_lt_of_le g1 h3.1)).trans (h3.2.1 x g1 g2), h3.2.2⟩ (by show cells + 1 + (bc - 1) ≤ _; omega) (by show slots + nfT ci + (bs - nfT ci) ≤ _; omega)
  rw [ev_lo hc, ← h2.1] at k5
  exact k5
end VA
