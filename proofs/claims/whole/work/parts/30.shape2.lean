/-! the shape of all that is made: final references -/
def fR0 (a k : Nat) : Option Nat := if 31 ≤ a ∧ a < 982 ∧ (a - 31) % 3 = 0 then (if k = 0 then some (a + 1) else if k = 1 then some (a + 2) else none) else match a, k with
  | 0, 0 => some 1
  | 0, 1 => some 3
  | 0, 2 => some 5
  | 0, 3 => some 7
  | 0, 4 => some 17
  | 0, 5 => some 25
  | 0, 6 => some 982
  | 0, 7 => some 997
  | 0, 8 => some 1002
  | 1, 0 => some 2
  | 3, 0 => some 4
  | 5, 0 => some 6
  | 7, 0 => some 8
  | 7, 1 => some 10
  | 7, 2 => some 12
  | 7, 8 => some 16
  | 8, 0 => some 9
  | 10, 0 => some 11
  | 12, 0 => some 13
  | 14, 0 => some 15
  | 17, 0 => some 18
  | 17, 3 => some 20
  | 17, 5 => some 21
  | 17, 6 => some 22
  | 17, 7 => some 23
  | 17, 8 => some 24
  | 18, 0 => some 19
  | 25, 0 => some 26
  | 25, 3 => some 29
  | 25, 4 => some 30
  | 26, 0 => some 27
  | 26, 1 => some 28
  | 982, 1 => some 983
  | 982, 2 => some 986
  | 983, 0 => some 984
  | 983, 1 => some 985
  | 997, 3 => some 1000
  | 997, 5 => some 1001
  | 998, 0 => some 999
  | 1003, 1 => some 1004
  | 1003, 5 => some 1005
  | 1003, 7 => some 1006
  | 1003, 12 => some 1007
  | 1003, 14 => some 1008
  | 1003, 17 => some 1009
  | 1003, 19 => some 1010
  | 1003, 22 => some 1011
  | 1003, 23 => some 1012
  | 1003, 24 => some 1013
  | 1003, 25 => some 1014
  | 1003, 26 => some 1015
  | 1003, 30 => some 1016
  | 1003, 31 => some 1017
  | 1003, 35 => some 1018
  | 1003, 38 => some 1019
  | 1003, 45 => some 1020
  | 1003, 46 => some 1021
  | _, _ => none
def Shp (g : mu_T) : Prop := gN g = 1022 ∧ ∀ a k, gF g a k = fR0 a k
theorem Shp.lt {g : mu_T} (h : Shp g) {a : Nat} (ha : a < 1022) : a < gN g := by rw [h.1]; exact ha
theorem Shp.sm {g k : mu_T} {S : List Nat} (h : Shp g) (z : sm g k S) : Shp k := ⟨by rw [z.N]; exact h.1, fun a j => by rw [z.F]; exact h.2 a j⟩
theorem Shp.B {g : mu_T} (h : Shp g) {b n : Nat} (hk : kdT b = .inl 1) (hb : b < 1022) (hf : fR0 b 0 = some (b + 1)) (hr : kdT (b + 1) = .inr (1, n)) (hr2 : b + 1 < 1022) (hn : n < 2147483648) : isB g b (b + 1) n := ⟨hk, h.lt hb, (h.2 b 0).trans hf, hr, h.lt hr2, hn⟩
section VAR
variable {p : Program} {l : Launch} {e : Env} {R : Room} {s : State} {m : MethodId} {args : Array Value} {below : List Frame} {meth : Method} {c : Code} {nL : Nat} {q : ev_T} {Qf : State → Prop} {pc : Nat} {la : List (Option Value)} {st : List Value} {bc bs : Nat} {g : mu_T} {cc : ByteArray} {own : String}
theorem v_aaldR (X : Cx p s m args c cc nL own q) {a t len b : Nat} {i : Int32} {C : String} (hd : decode cc pc = .ok (.aaload, 1)) (hk : kdT a = .inr (t, len)) (hty : tyT[t]? = some (.object C)) (ht : ¬ t < 3) (ha : a < gN g) (hin : vp_in i len) (hr : gR g a i.toNatClampNeg = some b) (kk : Vv p l e R s m args below meth c nL q Qf (pc + 1) la (.ref b :: st) (bc, bs, g)) : Vv p l e R s m args below meth c nL q Qf pc la (.int i :: .ref a :: st) (bc, bs, g) :=
  v_aald X hd hk hty ht ha hin hr kk
end VAR
/-! Diversions -/
def SD : List Nat := [987, 988, 989, 990, 991, 992, 993, 994, 995, 996]
/-- all cells of the diversions -/
def DS : List Nat := [982, 983, 984, 985, 987, 988, 989, 990, 991, 992, 993, 994, 995, 996]
theorem SD_mem {i : Nat} (h : i < 10) : 987 + i ∈ SD := by
  rcases (show i = 0 ∨ i = 1 ∨ i = 2 ∨ i = 3 ∨ i = 4 ∨ i = 5 ∨ i = 6 ∨ i = 7 ∨ i = 8 ∨ i = 9 by omega) with rfl | rfl | rfl | rfl | rfl | rfl | rfl | rfl | rfl | rfl <;> decide
theorem SD_of {j : Nat} (h : j ∈ SD) : ∃ i, i < 10 ∧ j = 987 + i := by
  simp only [SD, List.mem_cons, List.not_mem_nil, or_false] at h
  rcases h with rfl | rfl | rfl | rfl | rfl | rfl | rfl | rfl | rfl | rfl
  all_goals first | exact ⟨0, by decide, rfl⟩ | exact ⟨1, by decide, rfl⟩ | exact ⟨2, by decide, rfl⟩ | exact ⟨3, by decide, rfl⟩ | exact ⟨4, by decide, rfl⟩ | exact ⟨5, by decide, rfl⟩ | exact ⟨6, by decide, rfl⟩ | exact ⟨7, by decide, rfl⟩ | exact ⟨8, by decide, rfl⟩ | exact ⟨9, by decide, rfl⟩
theorem SD_DS {i : Nat} (h : i < 10) : 987 + i ∈ DS := by
  rcases (show i = 0 ∨ i = 1 ∨ i = 2 ∨ i = 3 ∨ i = 4 ∨ i = 5 ∨ i = 6 ∨ i = 7 ∨ i = 8 ∨ i = 9 by omega) with rfl | rfl | rfl | rfl | rfl | rfl | rfl | rfl | rfl | rfl <;> decide
/-- the row of the ten chains -/
def DR (g : mu_T) : Prop := ∀ i, i < 10 → gR g 986 i = some (987 + i)
/-- the diversions hold X, the current one is cur -/
def DV (g : mu_T) (cur : Int32) (X : Nat → List Int32) : Prop := gI g 982 0 = cur ∧ (cur = -1 ∨ ∃ c, c < 10 ∧ cur = nI c) ∧ ∃ ch fl fr, CW g 983 984 985 32768 SD ch fl fr ∧ ∀ i, i < 10 → bys g 984 (ch (987 + i)) = X i
def dvt (X : Nat → List Int32) : Nat := (X 0).length + ((X 1).length + ((X 2).length + ((X 3).length + ((X 4).length + ((X 5).length + ((X 6).length + ((X 7).length + ((X 8).length + (X 9).length))))))))
theorem dvt_tot {g : mu_T} {ch : Nat → List Nat} {X : Nat → List Int32} (h : ∀ i, i < 10 → bys g 984 (ch (987 + i)) = X i) : tot SD ch = dvt X := by
  have e : ∀ i, i < 10 → (ch (987 + i)).length = (X i).length := fun i hi => by rw [← h i hi, bys, List.length_map]
  simp only [tot, SD, List.map_cons, List.map_nil, List.sum_cons, List.sum_nil, dvt]
  rw [← e 0 (by decide), ← e 1 (by decide), ← e 2 (by decide), ← e 3 (by decide), ← e 4 (by decide), ← e 5 (by decide), ← e 6 (by decide), ← e 7 (by decide), ← e 8 (by decide), ← e 9 (by decide)]
  simp only [Nat.add_zero]
theorem DV.sm {g k : mu_T} {S : List Nat} {cur : Int32} {X : Nat → List Int32} (h : DV g cur X) (z : sm g k S) (hS : ∀ a ∈ DS, a ∉ S) : DV k cur X := by
  obtain ⟨h1, h2, ch, fl, fr, hW, hX⟩ := h
  obtain ⟨hC, hSn, hcS, hch, w2, w3, w4, w5, w6, w7, w8, w9, w10⟩ := hW
  have j1 := hS 982 (by decide)
  have j2 := hS 983 (by decide)
  have j3 := hS 984 (by decide)
  have j4 := hS 985 (by decide)
  refine ⟨by rw [z.I j1]; exact h1, h2, ch, fl, fr, ⟨hC.sm z, hSn, hcS, fun j hj => (hch j hj).keep z (hS j (by obtain ⟨i, hi, rfl⟩ := SD_of hj; exact SD_DS hi)) (fun x _ => z.I j4 x), by rw [z.I j2]; exact w2, by rw [z.I j2]; exact lkf_same (fun x _ => z.I j4 x) w3, by rw [z.I j2]; exact w4, w5, w6, w7, w8, w9, w10⟩, fun i hi => ?_⟩
  rw [← hX i hi]
  exact List.map_congr_left fun x _ => z.I j3 x
