/-! memory rows: fields, arrays, new cells, copies, calls, returns -/
/-- pool number idx of the holder own names field k of the objects of kind ci -/
def FL (own : String) (idx ci k : Nat) : Prop := ∃ (C : String) (T : u_T), vwCl[ci]? = some (C, T, nfT ci) ∧ k < nfT ci ∧ (∀ w ∈ u_ws C T (nfT ci), w ∈ tbG) ∧ (T k).1 = C ∧ (Cond.fieldLink own idx C (T k).2.1 (T k).2.2.1 ∈ tbG ∨ ∃ host, Cond.fieldLinkNest own idx C (T k).2.1 (T k).2.2.1 host ∈ nstT)
/-- what is known of the fields of a kind -/
def CK (ci : Nat) : Prop := ∀ (C : String) (T : u_T), vwCl[ci]? = some (C, T, nfT ci) → (∀ k, k < nfT ci → parseFieldDescriptor (T k).2.2.1 = some (ftT ci k)) ∧ (∀ a, a < nfT ci → ∀ b, b < nfT ci → a ≠ b → (T a).2.1 ≠ (T b).2.1) ∧ ∀ k, k < nfT ci → (T k).2.2.2 = (fsT ci k == 2)
theorem ev_ty {q : ev_T} {t : Nat} {ty : FieldType} (h : tyT[t]? = some ty) : (ev_tys q)[t]? = some (q.2.2.1 t, ty) := by
  have hl := (List.getElem?_eq_some_iff.mp h).1
  simp only [ev_tys, List.getElem?_map, List.getElem?_range hl, Option.map_some, List.getD_eq_getElem?_getD, h, Option.getD_some]
theorem WD.ref {q : ev_T} {u : mm_T} {H : Heap} (h : WD q u H) {a : Nat} (ha : a < mN u) : ev_ad q a = q.1 + a := ev_lo (Nat.lt_of_lt_of_le ha h.2.2.1)
theorem WD.put {q : ev_T} {u w : mm_T} {H H1 : Heap} {a ci k : Nat} {v : Value} {C : String} {T : u_T} {cell : Cell} (h : WD q u H) (hk : kdT a = .inl ci) (hc : vwCl[ci]? = some (C, T, nfT ci)) (hkN : k < nfT ci) (hap : ∀ x y, x < nfT ci → y < nfT ci → x ≠ y → q.2.1.2 ci x ≠ q.2.1.2 ci y)
    (q2 : cell.cls = q.2.1.1 ci) (q3 : cell.vm = .none) (q4 : ∀ j, j < nfT ci → cell.slots[q.2.1.2 ci j]? = some (vp_V ((List.range (nfT ci)).map (fun k => ev_v q (mm_av u ci a k))) j)) (e1 : H1[q.1 + a]? = some (cell.setSlot (q.2.1.2 ci k) (ev_v q v))) (e2 : H1.size = H.size) (e3 : ∀ x : Nat, x ≠ q.1 + a → H1[x]? = H[x]?)
    (hn : mN w = mN u) (hB : mmB w) (hZ : mmZ w) (ho : ∀ i, i ≠ a → mm_E q w i = mm_E q u i) (hv : ∀ j, mm_av w ci a j = if j = k then v else mm_av u ci a j) : WD q w H1 := by
  refine h.upd hn hB hZ ?_ ho e2 e3
  rw [mm_ob hk]
  refine ⟨_, hc, t_OB.to ⟨_, e1, q2, q3, t_set q4 hap hkN _⟩ (fun j hj => ?_)⟩
  rw [vp_V_map _ hj, hv j]
  simp only [updV]
  by_cases hjk : j = k
  · rw [if_pos hjk, if_pos hjk]
  · rw [if_neg hjk, if_neg hjk, vp_V_map _ hj]
section VM
variable {p : Program} {l : Launch} {e : Env} {R : Room} {s : State} {m : MethodId} {args : Array Value} {below : List Frame} {meth : Method} {c : Code} {nL : Nat} {q : ev_T} {Qf : State → Prop} {pc : Nat} {la : List (Option Value)} {st : List Value} {bc bs : Nat} {g : mu_T} {cc : ByteArray} {own : String}
/-- a fact of every memory -/
theorem v_inv (k : mmB (bc, bs, g) → mmZ (bc, bs, g) → Vv p l e R s m args below meth c nL q Qf pc la st (bc, bs, g)) : Vv p l e R s m args below meth c nL q Qf pc la st (bc, bs, g) :=
  fun ls H locs cells slots h1 h2 h3 h4 h5 => k h2.2.2.2.1 h2.2.2.2.2 ls H locs cells slots h1 h2 h3 h4 h5
theorem v_get (X : Cx p s m args c cc nL own q) {idx ci k a : Nat} (hd : decode cc pc = .ok (.getfield idx, 3)) (hF : FL own idx ci k) (hk : kdT a = .inl ci) (ha : a < gN g) (kk : Vv p l e R s m args below meth c nL q Qf (pc + 3) la (mm_av (bc, bs, g) ci a k :: st) (bc, bs, g)) : Vv p l e R s m args below meth c nL q Qf pc la (.ref a :: st) (bc, bs, g) := by
  intro ls H locs cells slots h1 h2 h3 h4 h5
  obtain ⟨C, T, hc, hkN, hin, hT1, hl⟩ := hF
  have he : (mm_ws q (bc, bs, g))[a]? = some (q.1 + a, .inr (ci, (List.range (nfT ci)).map (fun k => ev_v q (mm_av (bc, bs, g) ci a k)))) := by rw [mm_at ha, mm_ob hk]
  have hv : ((List.range (nfT ci)).map (fun k => ev_v q (mm_av (bc, bs, g) ci a k)))[k]? = some (ev_v q (mm_av (bc, bs, g) ci a k)) := by
    rw [List.getElem?_map, List.getElem?_range hkN]; rfl
  show W p l e R s m args below meth c H locs cells slots Qf (F0 m pc ls (.ref (ev_ad q a) :: st.map (ev_v q)))
  rw [h2.ref ha]
  rcases hl with hl | ⟨host, hl⟩
  · exact va_get X.1 X.2.1 X.2.2.2.2.1 hin X.2.2.2.1 X.2.2.2.2.2.1.1 h2.2.1 a he hc k hkN (X.2.2.2.2.1 _ hl) (fun x hx => by rw [hT1] at hx; exact hx) hv hd (kk ls H locs cells slots h1 h2 h3 h4 h5)
  · exact va_getN X.1 X.2.1 X.2.2.2.2.1 hin X.2.2.2.1 X.2.2.2.2.2.1.1 h2.2.1 a he hc k hkN (va_Nw.use rfl (X.2.2.2.2.2.1.2.1 _ hl)) (fun x hx => by rw [hT1] at hx; exact hx) hv hd (kk ls H locs cells slots h1 h2 h3 h4 h5)
theorem v_getI (X : Cx p s m args c cc nL own q) {idx ci k a : Nat} (hd : decode cc pc = .ok (.getfield idx, 3)) (hF : FL own idx ci k) (hs : fsT ci k = 0) (hk : kdT a = .inl ci) (ha : a < gN g) (kk : Vv p l e R s m args below meth c nL q Qf (pc + 3) la (.int (gI g a k) :: st) (bc, bs, g)) : Vv p l e R s m args below meth c nL q Qf pc la (.ref a :: st) (bc, bs, g) :=
  v_get X hd hF hk ha (by rw [show mm_av (bc, bs, g) ci a k = .int (gI g a k) by simp only [mm_av, hs]]; exact kk)
theorem v_getR (X : Cx p s m args c cc nL own q) {idx ci k a : Nat} {r : Option Nat} (hd : decode cc pc = .ok (.getfield idx, 3)) (hF : FL own idx ci k) (hs : fsT ci k = 1) (hk : kdT a = .inl ci) (ha : a < gN g) (hr : gR g a k = r) (kk : Vv p l e R s m args below meth c nL q Qf (pc + 3) la (va_rf r :: st) (bc, bs, g)) : Vv p l e R s m args below meth c nL q Qf pc la (.ref a :: st) (bc, bs, g) :=
  v_get X hd hF hk ha (by rw [show mm_av (bc, bs, g) ci a k = va_rf r by simp only [mm_av, hs]; exact congrArg va_rf hr]; exact kk)
theorem v_getF (X : Cx p s m args c cc nL own q) {idx ci k a b : Nat} (hd : decode cc pc = .ok (.getfield idx, 3)) (hF : FL own idx ci k) (hs : fsT ci k = 2) (hk : kdT a = .inl ci) (ha : a < gN g) (hr : gF g a k = some b) (kk : Vv p l e R s m args below meth c nL q Qf (pc + 3) la (.ref b :: st) (bc, bs, g)) : Vv p l e R s m args below meth c nL q Qf pc la (.ref a :: st) (bc, bs, g) :=
  v_get X hd hF hk ha (by rw [show mm_av (bc, bs, g) ci a k = va_rf (some b) by simp only [mm_av, hs]; exact congrArg va_rf hr]; exact kk)
theorem v_put (X : Cx p s m args c cc nL own q) {idx ci k a : Nat} {v : Value} {w : mm_T} (hd : decode cc pc = .ok (.putfield idx, 3)) (hF : FL own idx ci k) (hC : CK ci) (hs : ¬ fsT ci k = 2) (hk : kdT a = .inl ci) (ha : a < gN g) (hn : narrow (ftT ci k) (ev_v q v) = ev_v q v) (hfit : fits (ftT ci k) (ev_v q v) = true)
    (h1w : w.1 = bc) (h2w : w.2.1 = bs) (hnw : mN w = gN g) (hB : mmB (bc, bs, g) → mmB w) (hZ : mmZ (bc, bs, g) → mmZ w) (ho : ∀ i, i ≠ a → mm_E q w i = mm_E q (bc, bs, g) i) (hv : ∀ j, mm_av w ci a j = if j = k then v else mm_av (bc, bs, g) ci a j)
    (kk : Vv p l e R s m args below meth c nL q Qf (pc + 3) la st w) : Vv p l e R s m args below meth c nL q Qf pc la (v :: .ref a :: st) (bc, bs, g) := by
  intro ls H locs cells slots h1 h2 h3 h4 h5
  obtain ⟨C, T, hc, hkN, hin, hT1, hl⟩ := hF
  obtain ⟨hty, hnm, hfl⟩ := hC C T hc
  have hap := va_apart (own := own) X.2.2.2.2.1 hin (ftT ci) hty hnm X.2.2.2.2.2.1.1 hc
  have hat := h2.at ha
  rw [mm_ob hk] at hat
  obtain ⟨r, g1, cell, q1, q2, q3, q4⟩ := hat
  have hr : r = (C, T, nfT ci) := Option.some.inj (g1.symm.trans hc)
  subst hr
  obtain ⟨hS, hfc, kC, hkC, hkind⟩ := X.2.2.2.2.2.1.1.1 ci _ hc
  obtain ⟨cf, kf, fi, f, hi, hsl⟩ := hS k hkN
  have hlay := X.2.2.2.2.1 _ (hin _ (u_in_lay hkN))
  unfold u_lay at hlay
  rw [if_neg (by rw [hfl k hkN]; simp [hs])] at hlay
  have hst := (u_facts hfc hkC (u_lays X.2.2.2.2.1 hin hkN) hi).1
  have h6 := u_store hfc hkC hkind hlay hi (hty k hkN) hn hfit
  have hiC : s.fieldFound? C (T k).2.1 (T k).2.2.1 = some (cf, kf, fi, f) := by rw [hT1] at hi; exact hi
  show W p l e R s m args below meth c H locs cells slots Qf (F0 m pc ls (ev_v q v :: .ref (ev_ad q a) :: st.map (ev_v q)))
  rw [h2.ref ha]
  have fin : ∀ H' : Heap, H'[q.1 + a]? = some (cell.setSlot f.slot (ev_v q v)) → H'.size = H.size → (∀ x, x ≠ q.1 + a → H'[x]? = H[x]?) → W p l e R s m args below meth c H' (locs ++ [⟨q.1 + a, f.slot⟩]) cells slots Qf (F0 m (pc + 3) ls (st.map (ev_v q))) := by
    intro H' e1 e2 e3
    have e1' : H'[q.1 + a]? = some (cell.setSlot (q.2.1.2 ci k) (ev_v q v)) := by rw [← hsl]; exact e1
    exact kk ls H' _ cells slots h1 (h2.put hk hc hkN hap q2 q3 q4 e1' e2 e3 hnw (hB h2.2.2.2.1) (hZ h2.2.2.2.2) ho hv) (h3.put e2 e3 (Nat.le_add_right _ _)) (by rw [h1w]; exact h4) (by rw [h2w]; exact h5)
  have hlt : f.slot < cell.slots.size := by rw [hsl]; exact k2_hasslot (q4 k hkN)
  rcases hl with hl | ⟨host, hl⟩
  · exact W.putK X.1 X.2.1 (f := f) ⟨X.2.2.2.1, X.2.2.2.2.1 _ hl, ⟨_, _, _, hiC⟩, hst⟩ (by rw [q2]; exact h6) q1 q3 hlt rfl rfl hd fin
  · exact va_WputK X.1 X.2.1 (f := f) X.2.2.2.1 (va_Nw.use rfl (X.2.2.2.2.2.1.2.1 _ hl)) hiC hst (by rw [q2]; exact h6) q1 q3 hlt rfl rfl hd fin
theorem v_putI (X : Cx p s m args c cc nL own q) {idx ci k a : Nat} {x : Int32} (hd : decode cc pc = .ok (.putfield idx, 3)) (hF : FL own idx ci k) (hC : CK ci) (hs : fsT ci k = 0) (hk : kdT a = .inl ci) (ha : a < gN g) (hn : narrow (ftT ci k) (.int x) = .int x) (hfit : fits (ftT ci k) (.int x) = true)
    (kk : Vv p l e R s m args below meth c nL q Qf (pc + 3) la st (bc, bs, xI g a k x)) : Vv p l e R s m args below meth c nL q Qf pc la (.int x :: .ref a :: st) (bc, bs, g) :=
  v_put X (v := .int x) hd hF hC (by rw [hs]; decide) hk ha hn hfit rfl rfl rfl (fun h => mmB_In h (fun len z => by rw [hk] at z; cases z)) (fun h => mmZ_I h ha) (fun i hi => mm_E_I hi) (fun j => by
    by_cases hj : j = k
    · subst hj; rw [if_pos rfl]; simp only [mm_av, hs]; exact congrArg Value.int (up2_eq _ _ _ _)
    · rw [if_neg hj]; simp only [mm_av, wI, mI, mR, mF, up2_nk hj]) kk
theorem v_putR (X : Cx p s m args c cc nL own q) {idx ci k a : Nat} {r : Option Nat} (hd : decode cc pc = .ok (.putfield idx, 3)) (hF : FL own idx ci k) (hC : CK ci) (hs : fsT ci k = 1) (hk : kdT a = .inl ci) (ha : a < gN g) (ht : ∃ D, ftT ci k = .object D)
    (kk : Vv p l e R s m args below meth c nL q Qf (pc + 3) la st (bc, bs, xR g a k r)) : Vv p l e R s m args below meth c nL q Qf pc la (va_rf r :: .ref a :: st) (bc, bs, g) := by
  obtain ⟨D, hD⟩ := ht
  refine v_put X (v := va_rf r) hd hF hC (by rw [hs]; decide) hk ha (by rw [hD]; cases r <;> rfl) (by rw [hD]; cases r <;> rfl) rfl rfl rfl mmB_R (fun h => mmZ_R h ha) (fun i hi => mm_E_R hi) (fun j => ?_) kk
  by_cases hj : j = k
  · subst hj; rw [if_pos rfl]; simp only [mm_av, hs]; exact congrArg va_rf (up2_eq _ _ _ _)
  · rw [if_neg hj]; simp only [mm_av, wR, mI, mR, mF, up2_nk hj]
/-- a final field, in a making method of its own holder -/
theorem v_putF (X : Cx p s m args c cc nL own q) {idx ci k a b : Nat} (hd : decode cc pc = .ok (.putfield idx, 3)) (hF : FL own idx ci k) (hC : CK ci) (hs : fsT ci k = 2) (hk : kdT a = .inl ci) (ha : a < gN g) (ht : (∃ D, ftT ci k = .object D) ∨ ∃ D, ftT ci k = .array D) (hin2 : meth.name = "<init>") (hown : vwCl[ci]?.map (fun z => z.1) = some own)
    (kk : Vv p l e R s m args below meth c nL q Qf (pc + 3) la st (bc, bs, xF g a k (some b))) : Vv p l e R s m args below meth c nL q Qf pc la (.ref b :: .ref a :: st) (bc, bs, g) := by
  intro ls H locs cells slots h1 h2 h3 h4 h5
  obtain ⟨C, T, hc, hkN, hin, hT1, hl⟩ := hF
  obtain ⟨hty, hnm, hfl⟩ := hC C T hc
  have hCo : C = own := by rw [hc] at hown; exact Option.some.inj hown
  have hap := va_apart (own := own) X.2.2.2.2.1 hin (ftT ci) hty hnm X.2.2.2.2.2.1.1 hc
  have hat := h2.at ha
  rw [mm_ob hk] at hat
  obtain ⟨r, g1, cell, q1, q2, q3, q4⟩ := hat
  have hr : r = (C, T, nfT ci) := Option.some.inj (g1.symm.trans hc)
  subst hr
  obtain ⟨hS, hfc, kC, hkC, hkind⟩ := X.2.2.2.2.2.1.1.1 ci _ hc
  obtain ⟨cf, kf, fi, f, hi, hsl⟩ := hS k hkN
  have hlay := X.2.2.2.2.1 _ (hin _ (u_in_lay hkN))
  unfold u_lay at hlay
  rw [if_pos (by rw [hfl k hkN]; simp [hs])] at hlay
  have hst := (u_facts hfc hkC (u_lays X.2.2.2.2.1 hin hkN) hi).1
  have hcf : m.cls = cf := by
    obtain ⟨_, _, c', _, _, _, -, -, hf', -, -, -, hown2, -⟩ := Cond.laysFinal_spec hlay
    have e1 : c' = cf := by have := hi.symm.trans hf'; simp at this; exact this.1.symm
    rw [hT1, hCo] at hown2
    rw [← e1]; exact Option.some.inj (X.2.2.2.1.symm.trans hown2)
  have hnf : narrow (ftT ci k) (.ref (ev_ad q b)) = .ref (ev_ad q b) ∧ fits (ftT ci k) (.ref (ev_ad q b)) = true := by
    rcases ht with ⟨D, hD⟩ | ⟨D, hD⟩ <;> rw [hD] <;> exact ⟨rfl, rfl⟩
  have h6 := u_fits hfc hkC hkind (Or.inr hlay) hi (hty k hkN) hnf.1 hnf.2
  have hiC : s.fieldFound? C (T k).2.1 (T k).2.2.1 = some (cf, kf, fi, f) := by rw [hT1] at hi; exact hi
  show W p l e R s m args below meth c H locs cells slots Qf (F0 m pc ls (.ref (ev_ad q b) :: .ref (ev_ad q a) :: st.map (ev_v q)))
  rw [h2.ref ha]
  have hlt : f.slot < cell.slots.size := by rw [hsl]; exact k2_hasslot (q4 k hkN)
  have hB' : mmB (bc, bs, xF g a k (some b)) := h2.2.2.2.1
  have hZ' : mmZ (bc, bs, xF g a k (some b)) := mmZ_F (u := (bc, bs, g)) h2.2.2.2.2 ha
  have ho' : ∀ i, i ≠ a → mm_E q (bc, bs, xF g a k (some b)) i = mm_E q (bc, bs, g) i := fun i hi => mm_E_F (u := (bc, bs, g)) hi
  have hv' : ∀ j, mm_av (bc, bs, xF g a k (some b)) ci a j = if j = k then Value.ref b else mm_av (bc, bs, g) ci a j := by
    intro j
    by_cases hj : j = k
    · subst hj; rw [if_pos rfl]; simp only [mm_av, hs]; exact congrArg va_rf (up2_eq _ _ _ _)
    · rw [if_neg hj]; simp only [mm_av, xF, mI, mR, mF, up2_nk hj]
  have fin : ∀ H' : Heap, H'[q.1 + a]? = some (cell.setSlot f.slot (.ref (ev_ad q b))) → H'.size = H.size → (∀ x, x ≠ q.1 + a → H'[x]? = H[x]?) → W p l e R s m args below meth c H' (locs ++ [⟨q.1 + a, f.slot⟩]) cells slots Qf (F0 m (pc + 3) ls (st.map (ev_v q))) := by
    intro H' e1 e2 e3
    have e1' : H'[q.1 + a]? = some (cell.setSlot (q.2.1.2 ci k) (ev_v q (.ref b))) := by rw [← hsl]; exact e1
    have hW : WD q (bc, bs, xF g a k (some b)) H' := WD.put (v := .ref b) h2 hk hc hkN hap q2 q3 q4 e1' e2 e3 rfl hB' hZ' ho' hv'
    exact kk ls H' _ cells slots h1 hW (h3.put e2 e3 (Nat.le_add_right _ _)) h4 h5
  rcases hl with hl | ⟨host, hl⟩
  · exact W.putFinK X.1 X.2.1 X.2.2.2.1 (X.2.2.2.2.1 _ hl) hiC hst hcf hin2 (by rw [q2]; exact h6) q1 q3 hlt rfl rfl hd fin
  · refine va_Wputf X.1 X.2.1 X.2.2.2.1 (va_Nw.use rfl (X.2.2.2.2.2.1.2.1 _ hl)) hiC hst (Or.inr ⟨hcf, hin2⟩) q1 (by rw [q3]; exact fun h => by cases h) hlt h6.1 (by rw [q3, q2]; exact h6.2) rfl rfl hd ?_
    have hlH : q.1 + a < H.size := (Array.getElem?_eq_some_iff.mp q1).1
    exact fin _ (by simp [hlH]) (by simp) (fun x hx => by simp [Array.getElem?_setIfInBounds, Ne.symm hx])
end VM
