/-! what stands still, the JDK's rows, copies -/
section VS
variable {p : Program} {l : Launch} {e : Env} {R : Room} {s : State} {m : MethodId} {args : Array Value} {below : List Frame} {meth : Method} {c : Code} {nL : Nat} {q : ev_T} {Qf : State → Prop} {pc : Nat} {la : List (Option Value)} {st : List Value} {u : mm_T} {cc : ByteArray} {own : String}
theorem Cx.sf (X : Cx p s m args c cc nL own q) : SF q s s.heap := X.2.2.2.2.2.1.2.2
theorem v_gets (X : Cx p s m args c cc nL own q) {idx : Nat} {C n d : String} {v : Value} (hd : decode cc pc = .ok (.getstatic idx, 3)) (hl : Cond.fieldLink own idx C n d ∈ tbG ∨ ∃ host, Cond.fieldLinkNest own idx C n d host ∈ nstT) (hZ : va_Z C n d (ev_v q v) (fun a => q.1 ≤ a) s s.heap) (kk : Vv p l e R s m args below meth c nL q Qf (pc + 3) la (v :: st) u) : Vv p l e R s m args below meth c nL q Qf pc la st u := by
  intro ls H locs cells slots h1 h2 h3 h4 h5
  rcases hl with hl | ⟨host, hl⟩
  · exact va_gets X.1 X.2.1 hZ h3 X.2.2.2.1 (X.2.2.2.2.1 _ hl) (fun x hx => hx) hd (kk ls H locs cells slots h1 h2 h3 h4 h5)
  · exact va_getsN X.1 X.2.1 hZ h3 X.2.2.2.1 (va_Nw.use rfl (X.2.2.2.2.2.1.2.1 _ hl)) (fun x hx => hx) hd (kk ls H locs cells slots h1 h2 h3 h4 h5)
theorem v_sget (X : Cx p s m args c cc nL own q) {idx a : Nat} {o n d : String} {v : Value} (hd : decode cc pc = .ok (.getfield idx, 3)) (hl : Cond.fieldLink own idx o n d ∈ tbG) (hE : va_OF o n d (ev_v q v) (ev_ad q a) (fun a => q.1 ≤ a) s s.heap) (kk : Vv p l e R s m args below meth c nL q Qf (pc + 3) la (v :: st) u) : Vv p l e R s m args below meth c nL q Qf pc la (.ref a :: st) u := by
  intro ls H locs cells slots h1 h2 h3 h4 h5
  exact vk_getf X.1 X.2.1 hE h3 X.2.2.2.1 (X.2.2.2.2.1 _ hl) (fun x hx => hx) hd (kk ls H locs cells slots h1 h2 h3 h4 h5)
theorem v_salen (X : Cx p s m args c cc nL own q) {a N : Nat} {ty : FieldType} {f : Nat → Value} {v : Int32} (hd : decode cc pc = .ok (.arraylength, 1)) (hT : va_T ty (ev_ad q a) N f (fun a => q.1 ≤ a) s s.heap) (hv : Int32.ofNat N = v) (kk : Vv p l e R s m args below meth c nL q Qf (pc + 1) la (.int v :: st) u) : Vv p l e R s m args below meth c nL q Qf pc la (.ref a :: st) u :=
  fun ls H locs cells slots h1 h2 h3 h4 h5 => va_tlen X.1 X.2.1 hT h3 hv hd (kk ls H locs cells slots h1 h2 h3 h4 h5)
theorem v_siald (X : Cx p s m args c cc nL own q) {a N : Nat} {f : Nat → Value} {i : Int32} {v : Value} (hd : decode cc pc = .ok (.iaload, 1)) (hT : va_T .int (ev_ad q a) N f (fun a => q.1 ≤ a) s s.heap) (hin : vp_in i N) (hv : f i.toNatClampNeg = ev_v q v) (kk : Vv p l e R s m args below meth c nL q Qf (pc + 1) la (v :: st) u) : Vv p l e R s m args below meth c nL q Qf pc la (.int i :: .ref a :: st) u :=
  fun ls H locs cells slots h1 h2 h3 h4 h5 => va_ti X.1 X.2.1 hT h3 hin hv hd (kk ls H locs cells slots h1 h2 h3 h4 h5)
theorem v_sbald (X : Cx p s m args c cc nL own q) {a N : Nat} {f : Nat → Value} {i : Int32} {v : Value} (hd : decode cc pc = .ok (.baload, 1)) (hT : va_T .byte (ev_ad q a) N f (fun a => q.1 ≤ a) s s.heap) (hin : vp_in i N) (hv : f i.toNatClampNeg = ev_v q v) (kk : Vv p l e R s m args below meth c nL q Qf (pc + 1) la (v :: st) u) : Vv p l e R s m args below meth c nL q Qf pc la (.int i :: .ref a :: st) u :=
  fun ls H locs cells slots h1 h2 h3 h4 h5 => va_tb X.1 X.2.1 hT h3 hin hv hd (kk ls H locs cells slots h1 h2 h3 h4 h5)
theorem v_saald (X : Cx p s m args c cc nL own q) {a N : Nat} {C : String} {f : Nat → Value} {i : Int32} {v : Value} (hd : decode cc pc = .ok (.aaload, 1)) (hT : va_T (.object C) (ev_ad q a) N f (fun a => q.1 ≤ a) s s.heap) (hin : vp_in i N) (hv : f i.toNatClampNeg = ev_v q v) (kk : Vv p l e R s m args below meth c nL q Qf (pc + 1) la (v :: st) u) : Vv p l e R s m args below meth c nL q Qf pc la (.int i :: .ref a :: st) u :=
  fun ls H locs cells slots h1 h2 h3 h4 h5 => vb_tq X.1 X.2.1 hT h3 hin hv hd (kk ls H locs cells slots h1 h2 h3 h4 h5)
theorem v_ldcS (X : Cx p s m args c cc nL own q) {i a : Nat} {tx : String} (hd : decode cc pc = .ok (.ldc i, 2)) (hR : vk_R own i tx (ev_ad q a) s) (kk : Vv p l e R s m args below meth c nL q Qf (pc + 2) la (.ref a :: st) u) : Vv p l e R s m args below meth c nL q Qf pc la st u :=
  fun ls H locs cells slots h1 h2 h3 h4 h5 => va_ldcS X.1 X.2.1 X.2.2.2.1 hR hd (kk ls H locs cells slots h1 h2 h3 h4 h5)
theorem v_objInit (X : Cx p s m args c cc nL own q) {idx : Nat} {a : Nat} (hd : decode cc pc = .ok (.invokespecial idx, 3)) (hl : Cond.methodLink own idx Lib.objectInit ∈ tbG) (hi : Cond.instanceMethod Lib.objectInit ∈ tbG) (hc : Cond.code Lib.objectInit ⟨#[0xb1]⟩ 1 none ∈ tbG) (hRf : 1 ≤ R.frames) (hRl : 20 ≤ R.locals) (hcat : (st.map fun v => v.category).sum ≤ 8) (kk : Vv p l e R s m args below meth c nL q Qf (pc + 3) la st u) : Vv p l e R s m args below meth c nL q Qf pc la (.ref a :: st) u := by
  intro ls H locs cells slots h1 h2 h3 h4 h5
  exact W.objInit X.1 X.2.1 X.2.2.2.1 (X.2.2.2.2.1 _ hl) (X.2.2.2.2.1 _ hi) (X.2.2.2.2.1 _ hc) (g := F0 m pc ls (.ref (ev_ad q a) :: st.map (ev_v q))) rfl (by show ls.size = _; rw [X.2.2.1]; exact h1.1) rfl hd hRf (by rw [cat_map]; show 2 * 0 + _ + 12 ≤ _; omega) (kk ls H locs cells slots h1 h2 h3 h4 h5)
theorem v_max (X : Cx p s m args c cc nL own q) {idx : Nat} {x y z : Int32} (hd : decode cc pc = .ok (.invokestatic idx, 3)) (hl : Cond.methodLink own idx Lib.Math.max.name ∈ tbG) (hs : Cond.static Lib.Math.max.name ∈ tbG) (hi : Cond.initialized "java/lang/Math" ∈ tbG) (hc : Cond.code Lib.Math.max.name Lib.Math.max.code 2 (some .int) ∈ tbG) (hRf : 1 ≤ R.frames) (hRl : 21 ≤ R.locals) (hcat : (st.map fun v => v.category).sum ≤ 8) (hz : (if x < y then y else x) = z) (kk : Vv p l e R s m args below meth c nL q Qf (pc + 3) la (.int z :: st) u) : Vv p l e R s m args below meth c nL q Qf pc la (.int y :: .int x :: st) u := by
  subst hz
  intro ls H locs cells slots h1 h2 h3 h4 h5
  exact va_mmax X.1 X.2.1 (by rw [X.2.2.1, h1.1]) X.2.2.2.1 (X.2.2.2.2.1 _ hl) (X.2.2.2.2.1 _ hs) (X.2.2.2.2.1 _ hi) (X.2.2.2.2.1 _ hc) hRf (by rw [cat_map]; omega) (by omega) (by omega) hd (kk ls H locs cells slots h1 h2 h3 h4 h5)
theorem v_min (X : Cx p s m args c cc nL own q) {idx : Nat} {x y z : Int32} (hd : decode cc pc = .ok (.invokestatic idx, 3)) (hl : Cond.methodLink own idx Lib.Math.min.name ∈ tbG) (hs : Cond.static Lib.Math.min.name ∈ tbG) (hi : Cond.initialized "java/lang/Math" ∈ tbG) (hc : Cond.code Lib.Math.min.name Lib.Math.min.code 2 (some .int) ∈ tbG) (hRf : 1 ≤ R.frames) (hRl : 21 ≤ R.locals) (hcat : (st.map fun v => v.category).sum ≤ 8) (hz : (if y < x then y else x) = z) (kk : Vv p l e R s m args below meth c nL q Qf (pc + 3) la (.int z :: st) u) : Vv p l e R s m args below meth c nL q Qf pc la (.int y :: .int x :: st) u := by
  subst hz
  intro ls H locs cells slots h1 h2 h3 h4 h5
  exact va_mmin X.1 X.2.1 (by rw [X.2.2.1, h1.1]) X.2.2.2.1 (X.2.2.2.2.1 _ hl) (X.2.2.2.2.1 _ hs) (X.2.2.2.2.1 _ hi) (X.2.2.2.2.1 _ hc) hRf (by rw [cat_map]; omega) (by omega) (by omega) hd (kk ls H locs cells slots h1 h2 h3 h4 h5)
/-- a constant object into a row of references of ours -/
theorem v_aastS (X : Cx p s m args c cc nL own q) {bc bs : Nat} {g : mu_T} {a b t len : Nat} {i : Int32} {E : String} (hd : decode cc pc = .ok (.aastore, 1)) (hk : kdT a = .inr (t, len)) (hty : tyT[t]? = some (.object E)) (ht : ¬ t < 3) (ha : a < gN g) (hin : vp_in i len) (hO : va_O E (ev_ad q b) (fun a => q.1 ≤ a) s s.heap) (kk : Vv p l e R s m args below meth c nL q Qf (pc + 1) la st (bc, bs, xR g a i.toNatClampNeg (some b))) : Vv p l e R s m args below meth c nL q Qf pc la (.ref b :: .int i :: .ref a :: st) (bc, bs, g) := by
  intro ls H locs cells slots h1 h2 h3 h4 h5
  show W p l e R s m args below meth c H locs cells slots Qf (F0 m pc ls (.ref (ev_ad q b) :: .int i :: .ref (ev_ad q a) :: st.map (ev_v q)))
  rw [h2.ref ha]
  have hat : H[q.1 + a]? = some (vp_cell (q.2.2.1 t) (len, .inr (.inr (.inr (.inr (fun j => (gR g a j).map (ev_ad q))))))) := by have := h2.at ha; rw [mm_ar hk ht] at this; exact this
  have hlt : i.toNatClampNeg < len := Nat.not_le.mp fun z => hin (Or.inr z)
  have h0 : ¬ i < 0 := fun z => hin (Or.inl z)
  obtain ⟨cellV, g1, g2, g3, g4⟩ := hO.kept h3.2.1
  obtain ⟨kA, comp, k1, k2, k3, -⟩ := (X.2.2.2.2.2.1.1.2 t _ (ev_ty hty)).2
  have hcomp : comp = cellV.cls := Option.some.inj (k3.symm.trans g3)
  subst hcomp
  obtain ⟨kC, hkC⟩ : ∃ kC, s.vm.classes[cellV.cls]? = some kC := Vm.classAt_of_findClass g3
  refine W.aast X.1 X.2.1 hat (fun z h => by cases h) (fun h => by cases h) k1 k2 rfl hkC ⟨h0, by show _ < (arrV _ _ _).slots.size; rw [arrV_size]; exact hlt⟩ g1 (fun z h => by rw [h] at g2; cases g2) hkC (va_asg _ _) rfl rfl hd fun H1 e1 z oq => ?_
  exact kk ls H1 _ cells slots h1 (h2.astR ha hk ht e1 z oq) (h3.put z oq (Nat.le_add_right _ _)) h4 h5
/-- bytes or ints of one row behind those of another -/
theorem v_copy (X : Cx p s m args c cc nL own q) {bc bs : Nat} {g : mu_T} {idx a0 a1 t n0 n1 : Nat} {ty : FieldType} {sp dp n : Int32} {f : Nat → Int32} (hd : decode cc pc = .ok (.invokestatic idx, 3)) (hl : Cond.methodLink own idx arraycopyName ∈ tbG) (hnat : Cond.native arraycopyName ∈ tbG) (hstat : Cond.static arraycopyName ∈ tbG) (hini : Cond.initialized "java/lang/System" ∈ tbG)
    (hk0 : kdT a0 = .inr (1, n0)) (hk1 : kdT a1 = .inr (1, n1)) (ha0 : a0 < gN g) (ha1 : a1 < gN g) (g1 : ¬ sp < 0) (g2 : ¬ dp < 0) (g3 : ¬ n < 0) (g4 : sp.toNatClampNeg + n.toNatClampNeg ≤ n0) (g5 : dp.toNatClampNeg + n.toNatClampNeg ≤ n1) (hRf : 1 ≤ R.frames) (hRl : 8 + (nativeFrameWords "java/lang/System" "arraycopy" 5 + 11) ≤ R.locals) (hcat : (st.map fun v => v.category).sum ≤ 8) (hf : va_cpy (gI g a0) (gI g a1) sp.toNatClampNeg dp.toNatClampNeg n.toNatClampNeg = f)
    (kk : Vv p l e R s m args below meth c nL q Qf (pc + 3) la st (bc, bs, xA g a1 f)) : Vv p l e R s m args below meth c nL q Qf pc la (.int n :: .int dp :: .ref a1 :: .int sp :: .ref a0 :: st) (bc, bs, g) := by
  subst hf
  intro ls H locs cells slots h1 h2 h3 h4 h5
  show W p l e R s m args below meth c H locs cells slots Qf (F0 m pc ls (.int n :: .int dp :: .ref (ev_ad q a1) :: .int sp :: .ref (ev_ad q a0) :: st.map (ev_v q)))
  rw [h2.ref ha0, h2.ref ha1]
  have nn : ∀ z : Int32, ¬ z < 0 → z.toInt = (z.toNatClampNeg : Int) := by
    intro z hz
    have hz0 : (0 : Int) ≤ z.toInt := by
      have := Int32.not_lt.mp hz
      simpa using Int32.le_iff_toInt_le.mp this
    show z.toInt = ((z.toInt.toNat : Nat) : Int)
    omega
  have hc0 : H[q.1 + a0]? = some (vp_cell (q.2.2.1 1) (n0, .inl (gI g a0))) := by have := h2.at ha0; rw [mm_ai hk0 (by decide)] at this; exact this
  have hc1 : H[q.1 + a1]? = some (vp_cell (q.2.2.1 1) (n1, .inl (gI g a1))) := by have := h2.at ha1; rw [mm_ai hk1 (by decide)] at this; exact this
  have hty1 := (X.2.2.2.2.2.1.1.2 1 _ (ev_ty (ty := .byte) rfl)).1
  intro T hT Y
  obtain ⟨-, k0, hkk0, cm0, hkd0⟩ := hty1 n0 (fun j => .int (gI g a0 j))
  obtain ⟨-, k1, hkk1, cm1, hkd1⟩ := hty1 n1 (fun j => .int (gI g a1 j))
  have hbyte : ∀ j, fits .byte (.int (gI g a0 j)) = true := fun j => by
    have hb := h2.2.2.2.1 a0 n0 hk0 j
    have hb' : (gI g a0 j).toInt8.toInt32 = gI g a0 j := hb
    rw [← hb']; exact pk_fb _
  obtain ⟨vm', X', step⟩ := Y.arraycopy X.1 X.2.2.2.1 (X.2.2.2.2.1 _ hl) (X.2.2.2.2.1 _ hnat) (X.2.2.2.2.1 _ hstat) (X.2.2.2.2.1 _ hini) (src := q.1 + a0) (dst := q.1 + a1) (cs := vp_cell (q.2.2.1 1) (n0, .inl (gI g a0))) (cd := vp_cell (q.2.2.1 1) (n1, .inl (gI g a1))) (srcPos := sp) (destPos := dp) (n := n) (by rw [hT]; exact hc0) (by rw [hT]; exact hc1)
    (fun _ h => by cases h) (fun _ h => by cases h) (fun h => by cases h) (fun h => by cases h) hkk0 hkk1 hkd0 hkd1 (by simp [refKind]) g1 g2 g3
    (by rw [nn sp g1, nn n g3]; show ¬ _ > ((arrV (q.2.2.1 1) n0 (fun j => .int (gI g a0 j))).slots.size : Int); rw [arrV_size]; omega)
    (by rw [nn dp g2, nn n g3]; show ¬ _ > ((arrV (q.2.2.1 1) n1 (fun j => .int (gI g a1 j))).slots.size : Int); rw [arrV_size]; omega)
    (fun vm₁ _ i hi => by
      have e : (vp_cell (q.2.2.1 1) (n0, .inl (gI g a0))).slots.getD (sp.toNatClampNeg + i) .null = .int (gI g a0 (sp.toNatClampNeg + i)) := by
        show (arrV (q.2.2.1 1) n0 (fun j => .int (gI g a0 j))).slots.getD _ _ = _
        rw [Array.getD_eq_getD_getElem?, arrV_read _ _ (by omega)]
        rfl
      refine ⟨?_, ?_⟩
      · rw [e]
        exact hbyte _
      · rw [e]
        exact trivial)
    (g := F0 m pc ls (.int n :: .int dp :: .ref (q.1 + a1) :: .int sp :: .ref (q.1 + a0) :: st.map (ev_v q))) rfl (by show ls.size = _; rw [X.2.2.1]; exact h1.1) (rest := st.map (ev_v q)) rfl (by rw [X.2.1]; exact hd) hRf (by rw [cat_map]; show 2 * 0 + _ + _ ≤ _; omega)
  have e1 : copied (vp_cell (q.2.2.1 1) (n0, .inl (gI g a0))) (vp_cell (q.2.2.1 1) (n1, .inl (gI g a1))) sp dp n = vp_cell (q.2.2.1 1) (n1, .inl (va_cpy (gI g a0) (gI g a1) sp.toNatClampNeg dp.toNatClampNeg n.toNatClampNeg)) := va_copied (fun z => .int z) _ _ (gI g a0) (gI g a1) g4
  rw [e1] at X' step
  have hl1 : q.1 + a1 < H.size := (Array.getElem?_eq_some_iff.mp hc1).1
  generalize hcell : vp_cell (q.2.2.1 1) (n1, .inl (va_cpy (gI g a0) (gI g a1) sp.toNatClampNeg dp.toNatClampNeg n.toNatClampNeg)) = cellN at X' step
  have hheap : ((T.setVm vm').setCell (q.1 + a1) cellN).heap = H.setIfInBounds (q.1 + a1) cellN := by rw [← hT]; rfl
  have oq : ∀ x : Nat, x ≠ q.1 + a1 → (H.setIfInBounds (q.1 + a1) cellN)[x]? = H[x]? := fun x hx => by simp [Array.getElem?_setIfInBounds, Ne.symm hx]
  have hz : (H.setIfInBounds (q.1 + a1) cellN).size = H.size := by simp
  have hW : WD q (bc, bs, xA g a1 (va_cpy (gI g a0) (gI g a1) sp.toNatClampNeg dp.toNatClampNeg n.toNatClampNeg)) (H.setIfInBounds (q.1 + a1) cellN) := by
    refine WD.upd (u := (bc, bs, g)) (a := a1) h2 rfl (mmB_A (u := (bc, bs, g)) h2.2.2.2.1 ?_) (mmZ_A (u := (bc, bs, g)) h2.2.2.2.2 ha1) ?_ (fun i hi => mm_E_A (u := (bc, bs, g)) hi) hz oq
    · intro len hlen j
      simp only [va_cpy]
      by_cases hj : dp.toNatClampNeg ≤ j ∧ j < dp.toNatClampNeg + n.toNatClampNeg
      · rw [if_pos hj]; exact h2.2.2.2.1 a0 n0 hk0 _
      · rw [if_neg hj]; exact h2.2.2.2.1 a1 n1 hk1 _
    · rw [mm_ai hk1 (by decide)]
      show (H.setIfInBounds (q.1 + a1) cellN)[q.1 + a1]? = some (vp_cell _ (n1, .inl _))
      have hrow : mI (bc, bs, xA g a1 (va_cpy (gI g a0) (gI g a1) sp.toNatClampNeg dp.toNatClampNeg n.toNatClampNeg)) a1 = va_cpy (gI g a0) (gI g a1) sp.toNatClampNeg dp.toNatClampNeg n.toNatClampNeg := if_pos rfl
      rw [hrow, hcell]
      simp [hl1]
  obtain ⟨t2, b1, b2⟩ := kk ls _ _ cells slots h1 hW ⟨by rw [hz]; exact h3.1, fun x y1 y2 => by
      rw [oq x (fun e => y2 (by rw [e]; exact Nat.le_add_right _ _))]
      exact h3.2.1 x y1 y2, fun x hx => by
      rcases List.mem_append.mp hx with h | h
      · exact h3.2.2 x h
      · obtain ⟨z, -, hz⟩ := List.mem_map.mp h
        rw [← hz]
        exact Nat.le_add_right _ _⟩ h4 h5 _ hheap X'
  exact ⟨t2, step t2 b1, b2⟩
/-- a call on a constant object -/
theorem v_invVS (X : Cx p s m args c cc nL own q) {idx n b d bc bs : Nat} {M : mt_T} {As st0 : List Value} {Q : Option Value → mm_T → Prop} (hM : Ctr l q M d (.ref b :: As) (bc, bs, u.2.2) Q) (hd : decode cc pc = .ok (.invokevirtual idx, 3)) (hL : Cond.methodLink own idx M.1 ∈ tbG) (hK : MK M n) (hV : MV M) (hO : va_O M.1.cls (ev_ad q b) (fun a => q.1 ≤ a) s s.heap) (hst : st0 = As.reverse ++ .ref b :: st) (hn : As.length = n) (hcat : (st.map fun v => v.category).sum ≤ 8) (hRf : d + 1 ≤ R.frames) (hRl : 48 * (d + 1) ≤ R.locals) (hb1 : bc ≤ u.1) (hb2 : bs ≤ u.2.1)
    (kk : ∀ v w, Q v w → Vv p l e R s m args below meth c nL q Qf (pc + 3) la (v.toList ++ st) (u.1 - bc, u.2.1 - bs, w.2.2)) : Vv p l e R s m args below meth c nL q Qf pc la st0 u := by
  intro ls H locs cells slots h1 h2 h3 h4 h5
  obtain ⟨k1, k2, k3, k4, k5, k6, k7⟩ := hK
  have hrecv : ∃ cell : Cell, H[ev_ad q b]? = some cell ∧ cell.vm.isStatics = false ∧ s.vm.findClass M.1.cls = some cell.cls := by
    obtain ⟨cell, y1, y2, y3, -⟩ := hO.kept h3.2.1
    exact ⟨cell, y1, y2, y3⟩
  have hms : st0.map (ev_v q) = (As.map (ev_v q)).reverse ++ .ref (ev_ad q b) :: st.map (ev_v q) := by
    rw [hst, List.map_append, List.map_reverse, List.map_cons]
    rfl
  have hpre := v_pre X h2 h3 bc bs (.ref b :: As)
  refine v_back (g := F0 m pc ls (st0.map (ev_v q))) rfl (va_runV (As := As.map (ev_v q)) (C := M.1.cls) (nL := nL) ⟨X.1, X.2.1, X.2.2.1, X.2.2.2.1, X.2.2.2.2.1⟩ hM ⟨callB_of n X.2.2.2.2.1 (tbG_in k1) rfl rfl rfl (X.2.2.2.2.1 _ k2) (X.2.2.2.2.1 _ hL) ⟨k5, k6, k7⟩ ⟨hRf, by show 8 + (M.2.2.1 + 11) + 48 * d ≤ _; omega⟩, X.2.2.2.2.1 _ hV.1, X.2.2.2.2.1 _ hV.2⟩ ⟨Bw_blind _ _ _, hrecv, hpre⟩ rfl (by rw [List.length_map]; exact hn) h1.1 hms (lv_room (by rw [cat_map]; exact hcat)) hd ⟨by show cells + bc ≤ _; omega, by show slots + bs ≤ _; omega⟩) h1 h3 h4 h5 hb1 hb2 kk
end VS
