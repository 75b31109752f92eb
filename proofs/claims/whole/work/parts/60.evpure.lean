/-! expressions: what is reckoned -/
def isSpc (b : Int32) : Bool := decide (b = 32 ∨ (¬ b < 9 ∧ ¬ 13 < b))
def ofO (o : Nat) (v : Int32) : Int32 := if o = 19 then -v else if o = 20 then v ^^^ (-1) else if o = 21 then (if v = 0 then 1 else 0) else v
def ofT (o : Nat) (a b : Int32) : Int32 := match o with
  | 0 => if ¬ a = 0 ∨ ¬ b = 0 then 1 else 0
  | 1 => if ¬ a = 0 ∧ ¬ b = 0 then 1 else 0
  | 2 => if a = b then 1 else 0
  | 3 => if a = b then 0 else 1
  | 4 => if b < a then 0 else 1
  | 5 => if a < b then 0 else 1
  | 6 => a <<< ((b &&& 31) &&& 31)
  | 7 => a >>> ((b &&& 31) &&& 31)
  | 8 => a ||| b
  | 9 => a ^^^ b
  | 10 => a &&& b
  | 11 => if b ≤ a then 0 else 1
  | 12 => if a ≤ b then 0 else 1
  | 13 => a + b
  | 14 => a - b
  | 15 => a * b
  | 16 => if b = 0 then 0 else a / b
  | 17 => if b = 0 then 0 else a - a / b * b
  | _ => 0
def bzT (o : Nat) (b : Int32) : Bool := decide (o = 16 ∨ o = 17) && decide (b = 0)
def opS (o : Nat) : Int32 := op_T.getD o 0
/-- what waits is used, the newest first, as long as it is of this strength at least -/
def rck (s : Int32) : List Nat → List Int32 → Bool → List Int32 × List Nat × Bool
  | [], vs, bz => (vs, [], bz)
  | o :: ws, [], bz => ([], o :: ws, bz)
  | o :: ws, v :: vs, bz => if opS o < s then (v :: vs, o :: ws, bz) else if 18 ≤ o then rck s ws (ofO o v :: vs) bz else match vs with
    | [] => rck s ws [v] bz
    | a :: vs => rck s ws (ofT o a v :: vs) (bz || bzT o v)
theorem rck_c (s : Int32) (o : Nat) (ws : List Nat) (v : Int32) (vs : List Int32) (bz : Bool) : rck s (o :: ws) (v :: vs) bz = if opS o < s then (v :: vs, o :: ws, bz) else if 18 ≤ o then rck s ws (ofO o v :: vs) bz else match vs with
    | [] => rck s ws [v] bz
    | a :: vs => rck s ws (ofT o a v :: vs) (bz || bzT o v) := by
  cases vs <;> rfl
/-- how many stand in front, how many between -/
def frn : List Nat → Nat
  | [] => 0
  | o :: ws => (if 18 ≤ o then 1 else 0) + frn ws
def btw : List Nat → Nat
  | [] => 0
  | o :: ws => (if 18 ≤ o then 0 else 1) + btw ws
/-- between two of them that wait in one another's way the newer is stronger -/
def okW : List Nat → Prop
  | [] => True
  | o :: ws => o < 23 ∧ okW ws ∧ ∀ p r, ws = p :: r → o < 18 → p < 18 → opS p < opS o
theorem opS_10 : ∀ o, o < 18 → (opS o).toNatClampNeg ≤ 10 ∧ 1 ≤ (opS o).toNatClampNeg ∧ opS o = nI (opS o).toNatClampNeg := by decide +kernel
theorem opS_fr : ∀ o, o < 23 → 18 ≤ o → opS o = 11 ∧ o < 22 ∨ o = 22 := by decide +kernel
/-- the strength of the newest one, or 0 where it stands in front -/
def tpS : List Nat → Nat
  | [] => 0
  | o :: _ => if 18 ≤ o then 0 else (opS o).toNatClampNeg
theorem tpS_10 (ws : List Nat) : tpS ws ≤ 10 := by
  cases ws with
  | nil => decide
  | cons p r =>
    rw [tpS]
    by_cases ep : 18 ≤ p
    · rw [if_pos ep]; decide
    · rw [if_neg ep]; exact (opS_10 p (by omega)).1
theorem okW_len : ∀ {ws : List Nat}, okW ws → ws.length ≤ 11 * frn ws + tpS ws
  | [], _ => by decide
  | o :: ws, h => by
    have ih := okW_len h.2.1
    have h10 := tpS_10 ws
    rw [List.length_cons, frn, tpS]
    by_cases e : 18 ≤ o
    · rw [if_pos e, if_pos e]
      omega
    · rw [if_neg e, if_neg e]
      have h3 := h.2.2
      obtain ⟨o1, o2, o3⟩ := opS_10 o (by omega)
      have ht : tpS ws + 1 ≤ (opS o).toNatClampNeg := by
        cases ws with
        | nil => exact o2
        | cons p r =>
          rw [tpS]
          by_cases ep : 18 ≤ p
          · rw [if_pos ep]; exact o2
          · rw [if_neg ep]
            have := h3 p r rfl (by omega) (by omega)
            obtain ⟨p1, p2, p3⟩ := opS_10 p (by omega)
            rw [p3, o3] at this
            exact (nI_ltI (by omega) (by omega)).mp this
      omega
theorem okW_340 {ws : List Nat} (h : okW ws) (hf : frn ws ≤ 30) : ws.length ≤ 340 := by
  have h1 := okW_len h
  have h2 := tpS_10 ws
  omega
theorem btw_le : ∀ (ws : List Nat), btw ws ≤ ws.length
  | [] => by decide
  | o :: ws => by
    have := btw_le ws
    rw [btw, List.length_cons]
    split <;> omega
/-- digits, ten at most: their number, the value, the rest -/
def dgs : Nat → Int32 → Nat → List Int32 → Nat × Int32 × List Int32
  | 0, v, n, s => (n, v, s)
  | _ + 1, v, n, [] => (n, v, [])
  | k + 1, v, n, b :: s => if isDig (b &&& 255) = true then dgs k (v * 10 + ((b &&& 255) - 48)) (n + 1) s else (n, v, b :: s)
def frO (b : Int32) (s : List Int32) : Option Nat := if b = 40 then some 22 else if b = 43 then some 18 else if b = 45 then some 19 else if b = 126 then some 20 else if b = 33 then (if atL s (nI 0) = 61 then none else some 21) else none
/-- the sign stands at the beginning -/
def isPr (sg s : List Int32) : Bool := decide (sg.length ≤ s.length ∧ ∀ k, k < sg.length → s.getD k 0 &&& 255 = sg.getD k 0)
def sgO (o : Nat) : List Int32 := sx_B.getD (op_S.getD o 0) []
def btO (s : List Int32) : Option Nat := (List.range 18).find? (fun o => isPr (sgO o) s)
/-- the rest, the values and what waits, newest first, whether a value is due, whether something was divided by 0 -/
abbrev Ev : Type := List Int32 × List Int32 × List Nat × Bool × Bool
def eSt (E : Ev) : Option Ev := match E with
  | ([], _) => none
  | (b :: s, vs, ws, due, bz) =>
    if isSpc (b &&& 255) = true then some (s, vs, ws, due, bz)
    else if due = true then
      if isDig (b &&& 255) = true then
        if 9 < (dgs 10 0 0 (b :: s)).1 then none
        else some ((dgs 10 0 0 (b :: s)).2.2, (rck 11 ws ((dgs 10 0 0 (b :: s)).2.1 :: vs) bz).1, (rck 11 ws ((dgs 10 0 0 (b :: s)).2.1 :: vs) bz).2.1, false, (rck 11 ws ((dgs 10 0 0 (b :: s)).2.1 :: vs) bz).2.2)
      else match frO (b &&& 255) s with
        | none => none
        | some o => if 30 ≤ frn ws then none else some (s, vs, o :: ws, true, bz)
    else if b &&& 255 = 41 then
      match (rck 1 ws vs bz).2.1 with
        | [] => none
        | _ :: w => some (s, (rck 11 w (rck 1 ws vs bz).1 (rck 1 ws vs bz).2.2).1, (rck 11 w (rck 1 ws vs bz).1 (rck 1 ws vs bz).2.2).2.1, false, (rck 11 w (rck 1 ws vs bz).1 (rck 1 ws vs bz).2.2).2.2)
    else match btO (b :: s) with
      | none => none
      | some o => some ((b :: s).drop (sgO o).length, (rck (opS o) ws vs bz).1, o :: (rck (opS o) ws vs bz).2.1, true, (rck (opS o) ws vs bz).2.2)
def eRn : Nat → Ev → Option Ev
  | 0, E => some E
  | k + 1, E => if E.1 = [] then some E else (eSt E).bind (eRn k)
/-- at the end of the bytes: the error, or 0, and the value -/
def evF (e : Ev) : Int32 × Int32 := if e.2.2.2.1 = true then (38, 0) else if (rck 1 e.2.2.1 e.2.1 e.2.2.2.2).2.1 = [] ∧ (rck 1 e.2.2.1 e.2.1 e.2.2.2.2).1.length = 1 then (if (rck 1 e.2.2.1 e.2.1 e.2.2.2.2).2.2 = true then (39, 0) else (0, (rck 1 e.2.2.1 e.2.1 e.2.2.2.2).1.getD 0 0)) else (38, 0)
def evX (u : List Int32) : Int32 × Int32 := match eRn u.length (u, [], [], true, false) with
  | none => (38, 0)
  | some e => evF e
