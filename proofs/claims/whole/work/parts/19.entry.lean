/-! a contract out of its body, with the locals laid out; small facts of numbers -/
def lbA : List Value → List (Option Value)
  | [] => []
  | v :: vs => if v.category = 2 then some v :: none :: lbA vs else some v :: lbA vs
theorem lbA_get (q : ev_T) : ∀ (av : List Value) (o k : Nat) (v : Value), (lbA av)[k]? = some (some v) → (o + k, ev_v q v) ∈ lv_args o (av.map (ev_v q))
  | [], o, k, v, h => by simp [lbA] at h
  | w :: vs, o, k, v, h => by
    simp only [lbA] at h
    rw [List.map_cons]
    show _ ∈ (o, ev_v q w) :: lv_args (if (ev_v q w).category = 2 then o + 2 else o + 1) (vs.map (ev_v q))
    rw [ev_cat]
    rcases lv_cat w with hc | hc
    · rw [if_neg (by omega)] at h
      rw [if_neg (by omega)]
      cases k with
      | zero => cases h; exact List.mem_cons_self
      | succ k => exact List.mem_cons_of_mem _ (by have := lbA_get q vs (o + 1) k v h; rw [show o + (k + 1) = o + 1 + k by omega]; exact this)
    · rw [if_pos hc] at h
      rw [if_pos hc]
      match k, h with
      | 0, h => cases h; exact List.mem_cons_self
      | 1, h => simp at h
      | k + 2, h => exact List.mem_cons_of_mem _ (by have := lbA_get q vs (o + 2) k v h; rw [show o + (k + 2) = o + 2 + k by omega]; exact this)
theorem Ctr.mk {l : Launch} {q : ev_T} {y : MethodName} {cc : ByteArray} {mL : Nat} {ret : Option FieldType} {d : Nat} {av : List Value} {u : mm_T} {Q : Option Value → mm_T → Prop} {lb : List (Option Value)} (hy : plainName y.cls = true) (hle : (lg_sl (av.map (ev_v q))).length ≤ mL) (hlb : lbA av ++ List.replicate (mL - (lbA av).length) none = lb) (hlen : lb.length = mL)
    (body : ∀ (p : Program) (e : Env) (s : State) (m : MethodId) (args : Array Value) (below : List Frame) (meth : Method) (c : Code), Cx p s m args c cc mL y.cls q → meth.sig.returnType = ret → meth.locks = false → meth.name = y.name →
      Vv p l e (rmT d u.1 u.2.1) s m args below meth c mL q (MQ below (Qw q Q) args s u.1 u.2.1 (fun a => q.1 ≤ a)) 0 lb [] u) : Ctr l q (y, cc, mL, ret) d av u Q := by
  refine Ctr.of hy hle hlen (fun k v hk => ?_) body
  subst hlb
  have h0 : (lbA av)[k]? = some (some v) := by
    by_cases hk1 : k < (lbA av).length
    · rw [List.getElem?_append_left hk1] at hk; exact hk
    · rw [List.getElem?_append_right (by omega)] at hk
      rw [List.getElem?_replicate] at hk
      split at hk
      · cases hk
      · cases hk
  have := lbA_get q av 0 k v h0
  rw [Nat.zero_add] at this
  exact this
/-- a weaker end -/
theorem Ctr.weak {l : Launch} {q : ev_T} {M : mt_T} {d : Nat} {av : List Value} {u : mm_T} {Q Q' : Option Value → mm_T → Prop} (h : Ctr l q M d av u Q) (hQ : ∀ v w, Q v w → Q' v w) : Ctr l q M d av u Q' := by
  intro p e ha hc hk s m args below hf hpre hP hK
  obtain ⟨t, o, h1, h2, h3, ⟨⟨⟨v, w, hv, hq, hw⟩, hF⟩, hL⟩⟩ := h p e ha hc hk s m args below hf hpre hP hK
  exact ⟨t, o, h1, h2, h3, ⟨⟨⟨v, w, hv, hQ v w hq, hw⟩, hF⟩, hL⟩⟩
