/-! calls and returns -/
/-- name, code, most locals, answer -/
abbrev mt_T : Type := MethodName × ByteArray × Nat × Option FieldType
def rmT (d bc bs : Nat) : Room := { frames := d, cells := bc, slots := bs, locals := 48 * d }
def Ctr (l : Launch) (q : ev_T) (M : mt_T) (d : Nat) (av : List Value) (u : mm_T) (Q : Option Value → mm_T → Prop) : Prop :=
  Met l M.1 (Cond.code M.1 M.2.1 M.2.2.1 M.2.2.2 :: tbG) (rmT d u.1 u.2.1) (va_Pc (av.map (ev_v q)) (Bw q u)) (Qw q Q) u.1 u.2.1 (fun a => q.1 ≤ a)
/-- what the tables say of a method -/
def MK (M : mt_T) (n : Nat) : Prop := Cond.code M.1 M.2.1 M.2.2.1 M.2.2.2 ∈ tbG ∧ Cond.initialized M.1.cls ∈ tbG ∧ plainName M.1.cls = true ∧ M.2.2.1 ≤ 29 ∧ (M.1.cls ≠ "java/lang/invoke/MethodHandle" ∧ M.1.cls ≠ "java/lang/invoke/VarHandle" ∧ (parseMethodDescriptor M.1.desc).map (fun d => d.parameters.length) = some n)
def MV (M : mt_T) : Prop := Cond.instanceMethod M.1 ∈ tbG ∧ Cond.selects M.1.cls M.1 M.1 ∈ tbG
def ML (own : String) (idx : Nat) (M : mt_T) : Prop := Cond.methodLink own idx M.1 ∈ tbG ∨ ∃ host, Cond.methodLinkNest own idx M.1 host ∈ nstT
theorem Bk.to {q : ev_T} {s U : State} {locs : List Loc} (h : Bk q s) (hW : s.WarmedH U.vm) (hS : va_S (fun a => q.1 ≤ a) s.heap U.heap locs) : Bk q U := by
  refine ⟨va_K.moved hW.alike h.1, fun w hw => ?_, SF_to h.2.2 hW (fun a g1 g2 => hS.2.1 a g1 g2)⟩
  rcases nst_ok w hw with ⟨a, i, b, n, d, z, rfl⟩ | ⟨a, i, x, z, rfl⟩ | ⟨C, rfl⟩
  · exact va_Nw.warmF hW (h.2.1 _ hw)
  · exact va_Nw.warmM hW (h.2.1 _ hw)
  · exact va_AO.moved hW.alike (h.2.1 _ hw)
theorem Bw_blind (q : ev_T) (u : mm_T) (av : List Value) : FrameBlind (va_Pc av (Bw q u)) := by
  intro a U g mk h
  exact ⟨h.1, h.2.1, h.2.2.to (U := U.calling g mk a) (locs := []) (State.WarmedH.refl U) va_S.rf⟩
theorem tbG_in {M : mt_T} (h : Cond.code M.1 M.2.1 M.2.2.1 M.2.2.2 ∈ tbG) : GoodIn tbG (Cond.code M.1 M.2.1 M.2.2.1 M.2.2.2 :: tbG) := by
  intro w hw
  rcases List.mem_cons.mp hw with rfl | hw
  · exact ⟨h, tbG_good _ h⟩
  · exact ⟨hw, tbG_good _ hw⟩
section VC
variable {p : Program} {l : Launch} {e : Env} {R : Room} {s : State} {m : MethodId} {args : Array Value} {below : List Frame} {meth : Method} {c : Code} {nL : Nat} {q : ev_T} {Qf : State → Prop} {pc : Nat} {la : List (Option Value)} {st : List Value} {u : mm_T} {cc : ByteArray} {own : String}
/-- behind a call -/
theorem v_back {H : Heap} {locs : List Loc} {cells slots bc bs : Nat} {ls : Array Slot} {st0 rest : List Value} {Q : Option Value → mm_T → Prop} {a : Array Value} {g : JFrame} (hg : g = F0 m pc ls st0)
    (hr : va_Run p l e R s m args below meth c H locs cells slots bc bs g (rest.map (ev_v q)) (Qw q Q a) (fun x => q.1 ≤ x)) (h1 : lh q nL la ls) (h3 : va_S (fun a => q.1 ≤ a) s.heap H locs) (h4 : cells + u.1 ≤ R.cells) (h5 : slots + u.2.1 ≤ R.slots) (hb1 : bc ≤ u.1) (hb2 : bs ≤ u.2.1)
    (kk : ∀ v w, Q v w → Vv p l e R s m args below meth c nL q Qf (pc + 3) la (v.toList ++ rest) (u.1 - bc, u.2.1 - bs, w.2.2)) : W p l e R s m args below meth c H locs cells slots Qf g := by
  subst hg
  intro T hT X
  obtain ⟨v, st₀, t, T', L, h0, X', hL, e1, e2, ⟨⟨v', w, hv, hq, hw⟩, hz, hk⟩, stp⟩ := hr T hT X
  have hvv : v = v'.map (ev_v q) := by injection hv
  subst hvv
  rw [h0] at hz hk
  have hS' : va_S (fun a => q.1 ≤ a) s.heap T'.heap (locs ++ L) := ⟨Nat.le_trans h3.1 (by rw [e1]; exact hz), fun x g1 g2 => by rw [e1, hk x (Nat.lt_of_lt_of_le g1 h3.1) g2]; exact h3.2.1 x g1 g2, fun x hx => by
      rcases List.mem_append.mp hx with h | h
      · exact h3.2.2 x h
      · exact hL x h⟩
  have k2 := kk v' w hq ls T'.heap (locs ++ L) (cells + bc) (slots + bs) h1 (by rw [e1]; exact hw) hS' (by show cells + bc + (u.1 - bc) ≤ _; omega) (by show slots + bs + (u.2.1 - bs) ≤ _; omega) T' rfl X'
  obtain ⟨t2, a1, b1⟩ := k2
  have hm : (v'.toList ++ rest).map (ev_v q) = (v'.map (ev_v q)).toList ++ rest.map (ev_v q) := by cases v' <;> rfl
  rw [hm] at a1
  exact ⟨t2, stp t2 a1, b1⟩
theorem cat_map (q : ev_T) (l : List Value) : ((l.map (ev_v q)).map fun v => v.category).sum = (l.map fun v => v.category).sum := by
  rw [List.map_map]
  congr 1
  exact List.map_congr_left fun v _ => ev_cat q v
theorem v_pre (X : Cx p s m args c cc nL own q) {H : Heap} {locs : List Loc} (h2 : WD q u H) (h3 : va_S (fun a => q.1 ≤ a) s.heap H locs) (bc bs : Nat) (av : List Value) : ∀ U : State, U.heap = H → s.WarmedH U.vm → va_Pc (av.map (ev_v q)) (Bw q (bc, bs, u.2.2)) (av.map (ev_v q)).toArray U :=
  fun U hU hW => ⟨rfl, by rw [hU]; exact h2, X.2.2.2.2.2.1.to hW (by rw [hU]; exact h3)⟩
theorem v_invV (X : Cx p s m args c cc nL own q) {idx n b ci d bc bs : Nat} {M : mt_T} {T : u_T} {As st0 : List Value} {Q : Option Value → mm_T → Prop} (hM : Ctr l q M d (.ref b :: As) (bc, bs, u.2.2) Q) (hd : decode cc pc = .ok (.invokevirtual idx, 3)) (hL : ML own idx M) (hK : MK M n) (hV : MV M) (hk : kdT b = .inl ci) (hc : vwCl[ci]? = some (M.1.cls, T, nfT ci)) (hb : b < mN u) (hst : st0 = As.reverse ++ .ref b :: st) (hn : As.length = n) (hcat : (st.map fun v => v.category).sum ≤ 8) (hRf : d + 1 ≤ R.frames) (hRl : 48 * (d + 1) ≤ R.locals) (hb1 : bc ≤ u.1) (hb2 : bs ≤ u.2.1)
    (kk : ∀ v w, Q v w → Vv p l e R s m args below meth c nL q Qf (pc + 3) la (v.toList ++ st) (u.1 - bc, u.2.1 - bs, w.2.2)) : Vv p l e R s m args below meth c nL q Qf pc la st0 u := by
  intro ls H locs cells slots h1 h2 h3 h4 h5
  obtain ⟨k1, k2, k3, k4, k5, k6, k7⟩ := hK
  have hrecv := va_recv X.2.2.2.2.2.1.1 h2.2.1 hc (by rw [mm_at hb, mm_ob hk])
  have hms : st0.map (ev_v q) = (As.map (ev_v q)).reverse ++ .ref (q.1 + b) :: st.map (ev_v q) := by
    rw [hst, List.map_append, List.map_reverse, List.map_cons]
    show _ ++ Value.ref (ev_ad q b) :: _ = _
    rw [h2.ref hb]
  have hpre := v_pre X h2 h3 bc bs (.ref b :: As)
  have hpre' : ∀ U : State, U.heap = H → s.WarmedH U.vm → va_Pc (((Value.ref b) :: As).map (ev_v q)) (Bw q (bc, bs, u.2.2)) (Value.ref (q.1 + b) :: As.map (ev_v q)).toArray U := by
    intro U hU hW
    have hz := hpre U hU hW
    have he : ((Value.ref b) :: As).map (ev_v q) = Value.ref (q.1 + b) :: As.map (ev_v q) := by
      show Value.ref (ev_ad q b) :: _ = _
      rw [h2.ref hb]
    rw [he] at hz ⊢
    exact hz
  rcases hL with hL | ⟨host, hL⟩
  · refine v_back (g := F0 m pc ls (st0.map (ev_v q))) rfl (va_runV (As := As.map (ev_v q)) (C := M.1.cls) (nL := nL) ⟨X.1, X.2.1, X.2.2.1, X.2.2.2.1, X.2.2.2.2.1⟩ hM ⟨callB_of n X.2.2.2.2.1 (tbG_in k1) rfl rfl rfl (X.2.2.2.2.1 _ k2) (X.2.2.2.2.1 _ hL) ⟨k5, k6, k7⟩ ⟨hRf, by show 8 + (M.2.2.1 + 11) + 48 * d ≤ _; omega⟩, X.2.2.2.2.1 _ hV.1, X.2.2.2.2.1 _ hV.2⟩ ⟨Bw_blind _ _ _, hrecv, hpre'⟩ rfl (by rw [List.length_map]; exact hn) h1.1 hms (lv_room (by rw [cat_map]; exact hcat)) hd ⟨by show cells + bc ≤ _; omega, by show slots + bs ≤ _; omega⟩) h1 h3 h4 h5 hb1 hb2 kk
  · refine v_back (g := F0 m pc ls (st0.map (ev_v q))) rfl (va_runVN (As := As.map (ev_v q)) (C := M.1.cls) (nL := nL) ⟨X.1, X.2.1, X.2.2.1, X.2.2.2.1, X.2.2.2.2.1⟩ hM ⟨va_cnB n X.2.2.2.2.1 (tbG_in k1) rfl rfl rfl (X.2.2.2.2.2.1.2.1 _ hL) (X.2.2.2.2.1 _ k2) ⟨k5, k6, k7⟩ ⟨hRf, by show 8 + (M.2.2.1 + 11) + 48 * d ≤ _; omega⟩, X.2.2.2.2.1 _ hV.1, X.2.2.2.2.1 _ hV.2⟩ ⟨Bw_blind _ _ _, hrecv, hpre'⟩ rfl (by rw [List.length_map]; exact hn) h1.1 hms (lv_room (by rw [cat_map]; exact hcat)) hd ⟨by show cells + bc ≤ _; omega, by show slots + bs ≤ _; omega⟩) h1 h3 h4 h5 hb1 hb2 kk
theorem v_invS (X : Cx p s m args c cc nL own q) {idx n d bc bs : Nat} {M : mt_T} {As st0 : List Value} {Q : Option Value → mm_T → Prop} (hM : Ctr l q M d As (bc, bs, u.2.2) Q) (hd : decode cc pc = .ok (.invokestatic idx, 3)) (hL : ML own idx M) (hK : MK M n) (hS : Cond.static M.1 ∈ tbG) (hst : st0 = As.reverse ++ st) (hn : As.length = n) (hcat : (st.map fun v => v.category).sum ≤ 8) (hRf : d + 1 ≤ R.frames) (hRl : 48 * (d + 1) ≤ R.locals) (hb1 : bc ≤ u.1) (hb2 : bs ≤ u.2.1)
    (kk : ∀ v w, Q v w → Vv p l e R s m args below meth c nL q Qf (pc + 3) la (v.toList ++ st) (u.1 - bc, u.2.1 - bs, w.2.2)) : Vv p l e R s m args below meth c nL q Qf pc la st0 u := by
  intro ls H locs cells slots h1 h2 h3 h4 h5
  obtain ⟨k1, k2, k3, k4, k5, k6, k7⟩ := hK
  have hms : st0.map (ev_v q) = (As.map (ev_v q)).reverse ++ st.map (ev_v q) := by
    rw [hst, List.map_append, List.map_reverse]
  have hpre := v_pre X h2 h3 bc bs As
  rcases hL with hL | ⟨host, hL⟩
  · refine v_back (g := F0 m pc ls (st0.map (ev_v q))) rfl (va_runS (As := As.map (ev_v q)) (nL := nL) ⟨X.1, X.2.1, X.2.2.1, X.2.2.2.1, X.2.2.2.2.1⟩ hM ⟨callB_of n X.2.2.2.2.1 (tbG_in k1) rfl rfl rfl (X.2.2.2.2.1 _ k2) (X.2.2.2.2.1 _ hL) ⟨k5, k6, k7⟩ ⟨hRf, by show 8 + (M.2.2.1 + 11) + 48 * d ≤ _; omega⟩, X.2.2.2.2.1 _ hS⟩ ⟨Bw_blind _ _ _, hpre⟩ rfl (by rw [List.length_map]; exact hn) h1.1 hms (lv_room (by rw [cat_map]; exact hcat)) hd ⟨by show cells + bc ≤ _; omega, by show slots + bs ≤ _; omega⟩) h1 h3 h4 h5 hb1 hb2 kk
  · refine v_back (g := F0 m pc ls (st0.map (ev_v q))) rfl (va_runSN (As := As.map (ev_v q)) (nL := nL) ⟨X.1, X.2.1, X.2.2.1, X.2.2.2.1, X.2.2.2.2.1⟩ hM ⟨va_cnB n X.2.2.2.2.1 (tbG_in k1) rfl rfl rfl (X.2.2.2.2.2.1.2.1 _ hL) (X.2.2.2.2.1 _ k2) ⟨k5, k6, k7⟩ ⟨hRf, by show 8 + (M.2.2.1 + 11) + 48 * d ≤ _; omega⟩, X.2.2.2.2.1 _ hS, trivial⟩ ⟨Bw_blind _ _ _, hpre⟩ rfl (by rw [List.length_map]; exact hn) h1.1 hms (lv_room (by rw [cat_map]; exact hcat)) hd ⟨by show cells + bc ≤ _; omega, by show slots + bs ≤ _; omega⟩) h1 h3 h4 h5 hb1 hb2 kk
/-- a making method -/
theorem v_invI (X : Cx p s m args c cc nL own q) {idx n b d bc bs : Nat} {M : mt_T} {As st0 : List Value} {Q : Option Value → mm_T → Prop} (hM : Ctr l q M d (.ref b :: As) (bc, bs, u.2.2) Q) (hd : decode cc pc = .ok (.invokespecial idx, 3)) (hL : ML own idx M) (hK : MK M n) (hret : M.2.2.2 = none) (hin : M.1.name = "<init>") (hI : Cond.instanceMethod M.1 ∈ tbG) (hb : b < mN u) (hst : st0 = As.reverse ++ .ref b :: st) (hn : As.length = n) (hcat : (st.map fun v => v.category).sum ≤ 8) (hRf : d + 1 ≤ R.frames) (hRl : 48 * (d + 1) ≤ R.locals) (hb1 : bc ≤ u.1) (hb2 : bs ≤ u.2.1)
    (kk : ∀ v w, Q v w → Vv p l e R s m args below meth c nL q Qf (pc + 3) la (v.toList ++ st) (u.1 - bc, u.2.1 - bs, w.2.2)) : Vv p l e R s m args below meth c nL q Qf pc la st0 u := by
  intro ls H locs cells slots h1 h2 h3 h4 h5
  obtain ⟨y, cd, ml, ret⟩ := M
  dsimp only at hret
  subst hret
  obtain ⟨k1, k2, k3, k4, k5, k6, k7⟩ := hK
  have hms : st0.map (ev_v q) = (As.map (ev_v q)).reverse ++ .ref (q.1 + b) :: st.map (ev_v q) := by
    rw [hst, List.map_append, List.map_reverse, List.map_cons]
    show _ ++ Value.ref (ev_ad q b) :: _ = _
    rw [h2.ref hb]
  have hpre := v_pre X h2 h3 bc bs (.ref b :: As)
  have hpre' : ∀ U : State, U.heap = H → s.WarmedH U.vm → va_Pc (((Value.ref b) :: As).map (ev_v q)) (Bw q (bc, bs, u.2.2)) (Value.ref (q.1 + b) :: As.map (ev_v q)).toArray U := by
    intro U hU hW
    have hz := hpre U hU hW
    have he : ((Value.ref b) :: As).map (ev_v q) = Value.ref (q.1 + b) :: As.map (ev_v q) := by
      show Value.ref (ev_ad q b) :: _ = _
      rw [h2.ref hb]
    rw [he] at hz ⊢
    exact hz
  have hG := tbG_in (M := (y, cd, ml, none)) k1
  rcases hL with hL | ⟨host, hL⟩
  · refine v_back (g := F0 m pc ls (st0.map (ev_v q))) rfl (va_runI (As := As.map (ev_v q)) (nL := nL) ⟨X.1, X.2.1, X.2.2.1, X.2.2.2.1, X.2.2.2.2.1⟩ hM ⟨callB_of n X.2.2.2.2.1 hG rfl rfl rfl (X.2.2.2.2.1 _ k2) (X.2.2.2.2.1 _ hL) ⟨k5, k6, k7⟩ ⟨hRf, by show 8 + (ml + 11) + 48 * d ≤ _; dsimp only at k4; omega⟩, hin, X.2.2.2.2.1 _ hI⟩ ⟨Bw_blind _ _ _, hpre'⟩ rfl (by rw [List.length_map]; exact hn) h1.1 hms (lv_room (by rw [cat_map]; exact hcat)) hd ⟨by show cells + bc ≤ _; omega, by show slots + bs ≤ _; omega⟩) h1 h3 h4 h5 hb1 hb2 kk
  · refine v_back (g := F0 m pc ls (st0.map (ev_v q))) rfl (va_runIN (As := As.map (ev_v q)) (nL := nL) ⟨X.1, X.2.1, X.2.2.1, X.2.2.2.1, X.2.2.2.2.1⟩ hM ⟨va_cnB n X.2.2.2.2.1 hG rfl rfl rfl (X.2.2.2.2.2.1.2.1 _ hL) (X.2.2.2.2.1 _ k2) ⟨k5, k6, k7⟩ ⟨hRf, by show 8 + (ml + 11) + 48 * d ≤ _; dsimp only at k4; omega⟩, hin, X.2.2.2.2.1 _ hI⟩ ⟨Bw_blind _ _ _, hpre'⟩ rfl (by rw [List.length_map]; exact hn) h1.1 hms (lv_room (by rw [cat_map]; exact hcat)) hd ⟨by show cells + bc ≤ _; omega, by show slots + bs ≤ _; omega⟩) h1 h3 h4 h5 hb1 hb2 kk
end VC
section VR
variable {p : Program} {l : Launch} {e : Env} {R : Room} {s : State} {m : MethodId} {args : Array Value} {below : List Frame} {meth : Method} {c : Code} {nL : Nat} {q : ev_T} {pc : Nat} {la : List (Option Value)} {u : mm_T} {cc : ByteArray} {own : String} {Q : Option Value → mm_T → Prop}
theorem v_iret (X : Cx p s m args c cc nL own q) {v : Int32} (hlk : meth.locks = false) (hr : meth.sig.returnType = some .int) (hd : decode cc pc = .ok (.ireturn, 1)) (hQ : Q (some (.int v)) u) : Vv p l e R s m args below meth c nL q (MQ below (Qw q Q) args s R.cells R.slots (fun a => q.1 ≤ a)) pc la [.int v] u := by
  intro ls H locs cells slots h1 h2 h3 h4 h5
  refine W.widen (k := R.cells) (n := R.slots) (by omega) (by omega) ?_
  exact W.iret X.1 X.2.1 hr (fun t ht hW => ⟨⟨some (.int v), u, rfl, hQ, by rw [ht]; exact h2⟩, h3.F ht⟩) h3.2.2 hd hlk
theorem v_zret (X : Cx p s m args c cc nL own q) {v : Int32} {ty : FieldType} (hlk : meth.locks = false) (hr : meth.sig.returnType = some ty) (hn : narrow ty (.int v) = .int v) (hd : decode cc pc = .ok (.ireturn, 1)) (hQ : Q (some (.int v)) u) : Vv p l e R s m args below meth c nL q (MQ below (Qw q Q) args s R.cells R.slots (fun a => q.1 ≤ a)) pc la [.int v] u := by
  intro ls H locs cells slots h1 h2 h3 h4 h5
  refine W.widen (k := R.cells) (n := R.slots) (by omega) (by omega) ?_
  exact W.zret X.1 X.2.1 hr hn (fun t ht hW => ⟨⟨some (.int v), u, rfl, hQ, by rw [ht]; exact h2⟩, h3.F ht⟩) h3.2.2 hd hlk
theorem v_lret (X : Cx p s m args c cc nL own q) {v : Int64} (hlk : meth.locks = false) (hr : meth.sig.returnType = some .long) (hd : decode cc pc = .ok (.lreturn, 1)) (hQ : Q (some (.long v)) u) : Vv p l e R s m args below meth c nL q (MQ below (Qw q Q) args s R.cells R.slots (fun a => q.1 ≤ a)) pc la [.long v] u := by
  intro ls H locs cells slots h1 h2 h3 h4 h5
  refine W.widen (k := R.cells) (n := R.slots) (by omega) (by omega) ?_
  exact W.lret X.1 X.2.1 hr (fun t ht hW => ⟨⟨some (.long v), u, rfl, hQ, by rw [ht]; exact h2⟩, h3.F ht⟩) h3.2.2 hd hlk
theorem v_vret (X : Cx p s m args c cc nL own q) (hlk : meth.locks = false) (hr : meth.sig.returnType = none) (hd : decode cc pc = .ok (.return_, 1)) (hQ : Q none u) : Vv p l e R s m args below meth c nL q (MQ below (Qw q Q) args s R.cells R.slots (fun a => q.1 ≤ a)) pc la [] u := by
  intro ls H locs cells slots h1 h2 h3 h4 h5
  refine W.widen (k := R.cells) (n := R.slots) (by omega) (by omega) ?_
  exact W.vret X.1 X.2.1 hr (fun t ht hW => ⟨⟨none, u, rfl, hQ, by rw [ht]; exact h2⟩, h3.F ht⟩) h3.2.2 hd hlk
theorem v_aret (X : Cx p s m args c cc nL own q) {r : Option Nat} {rt : FieldType} (hlk : meth.locks = false) (hr : meth.sig.returnType = some rt) (hrt : (∃ n, rt = .object n) ∨ ∃ t, rt = .array t) (hd : decode cc pc = .ok (.areturn, 1)) (hQ : Q (some (va_rf r)) u) : Vv p l e R s m args below meth c nL q (MQ below (Qw q Q) args s R.cells R.slots (fun a => q.1 ≤ a)) pc la [va_rf r] u := by
  intro ls H locs cells slots h1 h2 h3 h4 h5
  refine W.widen (k := R.cells) (n := R.slots) (by omega) (by omega) ?_
  exact W.aret X.1 X.2.1 hr hrt (by cases r; exact Or.inl rfl; exact Or.inr ⟨_, rfl⟩) (fun t ht hW => ⟨⟨some (va_rf r), u, rfl, hQ, by rw [ht]; exact h2⟩, h3.F ht⟩) h3.2.2 hd hlk
end VR
/-- a method's contract out of the walk of its body -/
theorem Ctr.of {l : Launch} {q : ev_T} {y : MethodName} {cc : ByteArray} {mL : Nat} {ret : Option FieldType} {d : Nat} {av : List Value} {u : mm_T} {Q : Option Value → mm_T → Prop} {lb : List (Option Value)} (hy : plainName y.cls = true) (hle : (lg_sl (av.map (ev_v q))).length ≤ mL) (hlb : lb.length = mL) (hla : ∀ (k : Nat) (v : Value), lb[k]? = some (some v) → (k, ev_v q v) ∈ lv_args 0 (av.map (ev_v q)))
    (body : ∀ (p : Program) (e : Env) (s : State) (m : MethodId) (args : Array Value) (below : List Frame) (meth : Method) (c : Code), Cx p s m args c cc mL y.cls q → meth.sig.returnType = ret → meth.locks = false → meth.name = y.name →
      Vv p l e (rmT d u.1 u.2.1) s m args below meth c mL q (MQ below (Qw q Q) args s u.1 u.2.1 (fun a => q.1 ≤ a)) 0 lb [] u) : Ctr l q (y, cc, mL, ret) d av u Q := by
  refine Met.ofW (cc := cc) (maxL := mL) (ret := ret) hy rfl ?_
  intro p e s m args below meth c s₁ B hml hv
  obtain ⟨rfl, hWD, hBk⟩ := hv
  have hts := atoms_spec (ws := Cond.code y cc mL ret :: tbG) B.pre
  have hown : s.vm.findClass y.cls = some m.cls := findClass_of_methodNamed B.named
  have hin : meth.name = y.name := (name_of_methodNamed B.named B.method).1
  have hl := lv_entry (av.map (ev_v q)) (n := mL) hle
  rw [lg_entry_eq]
  refine body p e s m _ below meth c ⟨B.exec, B.bytes, hml, hown, fun w hw => hts w (List.mem_cons_of_mem _ hw), hBk, by have := hWD.1; omega⟩ B.returns B.notSynchronized hin _ s.heap [] 0 0 ⟨hl.1, hlb, hl.2.1, fun k v hk => hl.2.2 _ (hla k v hk)⟩ hWD va_S.rf (by show 0 + u.1 ≤ u.1; omega) (by show 0 + u.2.1 ≤ u.2.1; omega)
