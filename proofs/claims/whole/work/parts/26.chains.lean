/-! chains of cells as lists -/
/-- from value f on the links lead through ps to value e -/
def lkf (nx : Nat → Int32) : List Nat → Int32 → Int32 → Prop
  | [], e, f => f = e
  | p :: ps, e, f => f = nI p ∧ lkf nx ps e (nx p)
theorem lkf_same {nx ny : Nat → Int32} : ∀ {ps : List Nat} {e f : Int32}, (∀ p ∈ ps, ny p = nx p) → lkf nx ps e f → lkf ny ps e f
  | [], _, _, _, h => h
  | p :: ps, e, f, hs, h => ⟨h.1, by rw [hs p List.mem_cons_self]; exact lkf_same (fun x hx => hs x (List.mem_cons_of_mem _ hx)) h.2⟩
theorem lkf_app {nx : Nat → Int32} : ∀ {ps qs : List Nat} {e f d : Int32}, lkf nx ps d f → lkf nx qs e d → lkf nx (ps ++ qs) e f
  | [], qs, e, f, d, h, k => by rw [show f = d from h]; exact k
  | p :: ps, qs, e, f, d, h, k => ⟨h.1, lkf_app h.2 k⟩
/-- the last link is set anew -/
theorem lkf_end {nx ny : Nat → Int32} {d : Int32} {q : Nat} : ∀ {ps : List Nat} {e f : Int32}, lkf nx (ps ++ [q]) e f → q ∉ ps → (∀ p ∈ ps, ny p = nx p) → ny q = d → lkf ny (ps ++ [q]) d f
  | [], e, f, h, _, _, hq => ⟨h.1, hq⟩
  | p :: ps, e, f, h, hn, hs, hq => ⟨h.1, by rw [hs p List.mem_cons_self]; exact lkf_end h.2 (fun z => hn (List.mem_cons_of_mem _ z)) (fun x hx => hs x (List.mem_cons_of_mem _ hx)) hq⟩
theorem lkf_at {nx : Nat → Int32} : ∀ {ps : List Nat} {e f : Int32}, lkf nx ps e f → (∀ p, ps.head? = some p → f = nI p) ∧ ∀ k p r, ps[k]? = some p → ps[k + 1]? = some r → nx p = nI r
  | [], e, f, h => ⟨fun p hp => (by cases hp), fun k p r hp => (by simp at hp)⟩
  | p :: ps, e, f, h => by
    obtain ⟨h1, h2⟩ := lkf_at h.2
    refine ⟨fun x hx => by cases hx; exact h.1, fun k x r hx hr => ?_⟩
    cases k with
    | zero =>
      cases hx
      refine h1 r ?_
      simpa [List.head?_eq_getElem?] using hr
    | succ k => exact h2 k x r hx hr
/-- a chain h, linked by the row rn, goes through the cells ps -/
def CH (g : mu_T) (rn h : Nat) (ps : List Nat) : Prop := isH g h ∧ gI g h 2 = nI ps.length ∧ (ps = [] → gI g h 0 = -1 ∧ gI g h 1 = -1) ∧ ∀ qs p, ps = qs ++ [p] → gI g h 1 = nI p ∧ ∃ e, lkf (gI g rn) ps e (gI g h 0)
theorem CH.keep {g k : mu_T} {S : List Nat} {rn h : Nat} {ps : List Nat} (c : CH g rn h ps) (z : sm g k S) (hh : h ∉ S) (hn : ∀ p ∈ ps, gI k rn p = gI g rn p) : CH k rn h ps := by
  obtain ⟨h1, h2, h3, h4⟩ := c
  refine ⟨h1.sm z, by rw [z.I hh]; exact h2, fun e => by rw [z.I hh, z.I hh]; exact h3 e, fun qs p e => ?_⟩
  obtain ⟨y1, d, y2⟩ := h4 qs p e
  exact ⟨by rw [z.I hh]; exact y1, d, by rw [z.I hh]; exact lkf_same hn y2⟩
/-- how many cells the chains of S have -/
def tot (S : List Nat) (ch : Nat → List Nat) : Nat := (S.map (fun h => (ch h).length)).sum
theorem tot_up {ch : Nat → List Nat} {h : Nat} {x : List Nat} : ∀ {S : List Nat}, S.Nodup → h ∈ S → tot S (va_up ch h x) + (ch h).length = tot S ch + x.length
  | [], _, hm => by cases hm
  | a :: S, hn, hm => by
    have hn' := List.nodup_cons.mp hn
    have e : ∀ T : List Nat, h ∉ T → tot T (va_up ch h x) = tot T ch := by
      intro T hT
      simp only [tot]
      congr 1
      refine List.map_congr_left fun b hb => ?_
      simp only [va_up]
      rw [if_neg (fun z : b = h => hT (by rw [← z]; exact hb))]
    simp only [tot, List.map_cons, List.sum_cons]
    by_cases ha : h = a
    · subst ha
      have := e S hn'.1
      simp only [tot] at this
      rw [this]
      simp only [va_up, if_true]
      omega
    · rcases List.mem_cons.mp hm with z | z
      · exact absurd z ha
      · have := tot_up (x := x) (ch := ch) hn'.2 z
        simp only [tot] at this
        have e2 : va_up ch h x a = ch a := by simp only [va_up]; rw [if_neg (fun z => ha z.symm)]
        rw [e2]
        omega
/-- the cells of a Cells object: chains S through ch, the free ones fl, those below fr were used -/
def CW (g : mu_T) (c rb rn N : Nat) (S : List Nat) (ch : Nat → List Nat) (fl : List Nat) (fr : Nat) : Prop :=
  isC g c rb rn N ∧ S.Nodup ∧ c ∉ S ∧ (∀ h ∈ S, CH g rn h (ch h)) ∧ gI g c 2 = nI fr ∧ lkf (gI g rn) fl (-1) (gI g c 3) ∧ gI g c 4 = nI (tot S ch) ∧ fr ≤ N ∧ tot S ch + fl.length = fr ∧
  (∀ p ∈ fl, p < fr) ∧ fl.Nodup ∧ (∀ h ∈ S, (ch h).Nodup ∧ ∀ p ∈ ch h, p < fr ∧ p ∉ fl) ∧ ∀ h ∈ S, ∀ k ∈ S, ∀ p, p ∈ ch h → p ∈ ch k → h = k
/-- the bytes of a chain -/
def bys (g : mu_T) (rb : Nat) (ps : List Nat) : List Int32 := ps.map (gI g rb)
theorem CW.ids {g : mu_T} {c rb rn N : Nat} {S : List Nat} {ch : Nat → List Nat} {fl : List Nat} {fr : Nat} (w : CW g c rb rn N S ch fl fr) : rb ∉ S ∧ rn ∉ S ∧ c ≠ rb ∧ c ≠ rn ∧ rb ≠ rn := by
  obtain ⟨⟨h1, h2, h3, h4, h5, h6, h7, h8, h9⟩, -, -, hS, -⟩ := w
  refine ⟨fun z => ?_, fun z => ?_, fun z => ?_, fun z => ?_, fun z => ?_⟩
  · have := (hS _ z).1.1; rw [h5] at this; cases this
  · have := (hS _ z).1.1; rw [h7] at this; cases this
  · rw [z, h5] at h1; cases h1
  · rw [z, h7] at h1; cases h1
  · rw [z, h7] at h5; cases h5
theorem and255_b (x : Int32) : (x &&& 255).toInt8.toInt32 = x.toInt8.toInt32 := by
  have h : (x &&& 255).toInt8 = x.toInt8 := by
    apply Int8.toBitVec_inj.mp
    apply BitVec.eq_of_getLsbD_eq
    intro i hi
    simp only [Int32.toBitVec_toInt8, Int32.toBitVec_and, BitVec.getLsbD_signExtend]
    have h32 : i < 32 := by omega
    simp only [h32, if_true, BitVec.getLsbD_and, hi, decide_true, Bool.true_and]
    have : (Int32.toBitVec 255).getLsbD i = true := by
      rcases (show i = 0 ∨ i = 1 ∨ i = 2 ∨ i = 3 ∨ i = 4 ∨ i = 5 ∨ i = 6 ∨ i = 7 by omega) with rfl | rfl | rfl | rfl | rfl | rfl | rfl | rfl <;> decide +kernel
    rw [this, Bool.and_true]
  rw [h]
