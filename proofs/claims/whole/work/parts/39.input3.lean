/-! letters, digits; Input: readName, readRemark, dropLine -/
def isLet (b : Int32) : Bool := decide ((¬ b < 65 ∧ b ≤ 90) ∨ (¬ b < 97 ∧ b ≤ 122) ∨ b = 95)
def isDig (b : Int32) : Bool := decide (¬ b < 48 ∧ ¬ 57 < b)
def isNam (b : Int32) : Bool := isLet b || isDig b
set_option maxHeartbeats 4000000 in
set_option maxRecDepth 100000 in
theorem k_isLetter (l : Launch) (q : ev_T) {b : Int32} {g : mu_T}  : Ctr l q M_Mi_isLetter 0 [.int b] (0, 0, g) (fun v w => v = some (.int (if isLet b = true then 1 else 0)) ∧ w.2.2 = g) := by

  refine Ctr.mk (lb := [some (.int b)]) (by decide +kernel) (Nat.le_of_ble_eq_true rfl) rfl rfl ?_
  intro pp ee ss mm aa bb mt cd X hrt hlk hnm
  refine v_iload_n X (dk D_Mi_isLetter 0 rfl) rfl ?_
  refine v_bipush (v := 65) X (dk D_Mi_isLetter 1 rfl) (by decide) ?_
  refine v_icmp_lt (tgt := 12) X (dk D_Mi_isLetter 2 rfl) (by decide) (fun c3 => ?_) (fun c3 => ?_)
  · refine v_iload_n X (dk D_Mi_isLetter 6 rfl) rfl ?_
    refine v_bipush (v := 97) X (dk D_Mi_isLetter 7 rfl) (by decide) ?_
    refine v_icmp_lt (tgt := 24) X (dk D_Mi_isLetter 8 rfl) (by decide) (fun c15 => ?_) (fun c15 => ?_)
    · refine v_iload_n X (dk D_Mi_isLetter 12 rfl) rfl ?_
      refine v_bipush (v := 95) X (dk D_Mi_isLetter 13 rfl) (by decide) ?_
      refine v_icmp_ne (tgt := 34) X (dk D_Mi_isLetter 14 rfl) (by decide) (fun c27 => ?_) (fun c27 => ?_)
      · refine v_iconst (v := 0) X (dk D_Mi_isLetter 17 rfl) (by decide) ?_
        exact v_zret X hlk hrt rfl (dk D_Mi_isLetter 18 rfl) (by rw [if_neg (show ¬ isLet b = true from fun e => by rcases of_decide_eq_true e with e | e | e; (first | exact e.1 c3 | exact c9 e.2); (first | exact e.1 c15 | exact c21 e.2); exact c27 e)]; exact ⟨rfl, rfl⟩)
      · refine v_iconst (v := 1) X (dk D_Mi_isLetter 15 rfl) (by decide) ?_
        refine v_goto (tgt := 35) X (dk D_Mi_isLetter 16 rfl) (by decide) ?_
        exact v_zret X hlk hrt rfl (dk D_Mi_isLetter 18 rfl) (by rw [if_pos (show isLet b = true from decide_eq_true (by first | exact Or.inr (Or.inr c27) | exact Or.inr (Or.inl ⟨c15, c21⟩) | exact Or.inl ⟨c3, c9⟩))]; exact ⟨rfl, rfl⟩)
    · refine v_iload_n X (dk D_Mi_isLetter 9 rfl) rfl ?_
      refine v_bipush (v := 122) X (dk D_Mi_isLetter 10 rfl) (by decide) ?_
      refine v_icmp_le (tgt := 30) X (dk D_Mi_isLetter 11 rfl) (by decide) (fun c21 => ?_) (fun c21 => ?_)
      · refine v_iconst (v := 1) X (dk D_Mi_isLetter 15 rfl) (by decide) ?_
        refine v_goto (tgt := 35) X (dk D_Mi_isLetter 16 rfl) (by decide) ?_
        exact v_zret X hlk hrt rfl (dk D_Mi_isLetter 18 rfl) (by rw [if_pos (show isLet b = true from decide_eq_true (by first | exact Or.inr (Or.inr c27) | exact Or.inr (Or.inl ⟨c15, c21⟩) | exact Or.inl ⟨c3, c9⟩))]; exact ⟨rfl, rfl⟩)
      · refine v_iload_n X (dk D_Mi_isLetter 12 rfl) rfl ?_
        refine v_bipush (v := 95) X (dk D_Mi_isLetter 13 rfl) (by decide) ?_
        refine v_icmp_ne (tgt := 34) X (dk D_Mi_isLetter 14 rfl) (by decide) (fun c27 => ?_) (fun c27 => ?_)
        · refine v_iconst (v := 0) X (dk D_Mi_isLetter 17 rfl) (by decide) ?_
          exact v_zret X hlk hrt rfl (dk D_Mi_isLetter 18 rfl) (by rw [if_neg (show ¬ isLet b = true from fun e => by rcases of_decide_eq_true e with e | e | e; (first | exact e.1 c3 | exact c9 e.2); (first | exact e.1 c15 | exact c21 e.2); exact c27 e)]; exact ⟨rfl, rfl⟩)
        · refine v_iconst (v := 1) X (dk D_Mi_isLetter 15 rfl) (by decide) ?_
          refine v_goto (tgt := 35) X (dk D_Mi_isLetter 16 rfl) (by decide) ?_
          exact v_zret X hlk hrt rfl (dk D_Mi_isLetter 18 rfl) (by rw [if_pos (show isLet b = true from decide_eq_true (by first | exact Or.inr (Or.inr c27) | exact Or.inr (Or.inl ⟨c15, c21⟩) | exact Or.inl ⟨c3, c9⟩))]; exact ⟨rfl, rfl⟩)
  · refine v_iload_n X (dk D_Mi_isLetter 3 rfl) rfl ?_
    refine v_bipush (v := 90) X (dk D_Mi_isLetter 4 rfl) (by decide) ?_
    refine v_icmp_le (tgt := 30) X (dk D_Mi_isLetter 5 rfl) (by decide) (fun c9 => ?_) (fun c9 => ?_)
    · refine v_iconst (v := 1) X (dk D_Mi_isLetter 15 rfl) (by decide) ?_
      refine v_goto (tgt := 35) X (dk D_Mi_isLetter 16 rfl) (by decide) ?_
      exact v_zret X hlk hrt rfl (dk D_Mi_isLetter 18 rfl) (by rw [if_pos (show isLet b = true from decide_eq_true (by first | exact Or.inr (Or.inr c27) | exact Or.inr (Or.inl ⟨c15, c21⟩) | exact Or.inl ⟨c3, c9⟩))]; exact ⟨rfl, rfl⟩)
    · refine v_iload_n X (dk D_Mi_isLetter 6 rfl) rfl ?_
      refine v_bipush (v := 97) X (dk D_Mi_isLetter 7 rfl) (by decide) ?_
      refine v_icmp_lt (tgt := 24) X (dk D_Mi_isLetter 8 rfl) (by decide) (fun c15 => ?_) (fun c15 => ?_)
      · refine v_iload_n X (dk D_Mi_isLetter 12 rfl) rfl ?_
        refine v_bipush (v := 95) X (dk D_Mi_isLetter 13 rfl) (by decide) ?_
        refine v_icmp_ne (tgt := 34) X (dk D_Mi_isLetter 14 rfl) (by decide) (fun c27 => ?_) (fun c27 => ?_)
        · refine v_iconst (v := 0) X (dk D_Mi_isLetter 17 rfl) (by decide) ?_
          exact v_zret X hlk hrt rfl (dk D_Mi_isLetter 18 rfl) (by rw [if_neg (show ¬ isLet b = true from fun e => by rcases of_decide_eq_true e with e | e | e; (first | exact e.1 c3 | exact c9 e.2); (first | exact e.1 c15 | exact c21 e.2); exact c27 e)]; exact ⟨rfl, rfl⟩)
        · refine v_iconst (v := 1) X (dk D_Mi_isLetter 15 rfl) (by decide) ?_
          refine v_goto (tgt := 35) X (dk D_Mi_isLetter 16 rfl) (by decide) ?_
          exact v_zret X hlk hrt rfl (dk D_Mi_isLetter 18 rfl) (by rw [if_pos (show isLet b = true from decide_eq_true (by first | exact Or.inr (Or.inr c27) | exact Or.inr (Or.inl ⟨c15, c21⟩) | exact Or.inl ⟨c3, c9⟩))]; exact ⟨rfl, rfl⟩)
      · refine v_iload_n X (dk D_Mi_isLetter 9 rfl) rfl ?_
        refine v_bipush (v := 122) X (dk D_Mi_isLetter 10 rfl) (by decide) ?_
        refine v_icmp_le (tgt := 30) X (dk D_Mi_isLetter 11 rfl) (by decide) (fun c21 => ?_) (fun c21 => ?_)
        · refine v_iconst (v := 1) X (dk D_Mi_isLetter 15 rfl) (by decide) ?_
          refine v_goto (tgt := 35) X (dk D_Mi_isLetter 16 rfl) (by decide) ?_
          exact v_zret X hlk hrt rfl (dk D_Mi_isLetter 18 rfl) (by rw [if_pos (show isLet b = true from decide_eq_true (by first | exact Or.inr (Or.inr c27) | exact Or.inr (Or.inl ⟨c15, c21⟩) | exact Or.inl ⟨c3, c9⟩))]; exact ⟨rfl, rfl⟩)
        · refine v_iload_n X (dk D_Mi_isLetter 12 rfl) rfl ?_
          refine v_bipush (v := 95) X (dk D_Mi_isLetter 13 rfl) (by decide) ?_
          refine v_icmp_ne (tgt := 34) X (dk D_Mi_isLetter 14 rfl) (by decide) (fun c27 => ?_) (fun c27 => ?_)
          · refine v_iconst (v := 0) X (dk D_Mi_isLetter 17 rfl) (by decide) ?_
            exact v_zret X hlk hrt rfl (dk D_Mi_isLetter 18 rfl) (by rw [if_neg (show ¬ isLet b = true from fun e => by rcases of_decide_eq_true e with e | e | e; (first | exact e.1 c3 | exact c9 e.2); (first | exact e.1 c15 | exact c21 e.2); exact c27 e)]; exact ⟨rfl, rfl⟩)
          · refine v_iconst (v := 1) X (dk D_Mi_isLetter 15 rfl) (by decide) ?_
            refine v_goto (tgt := 35) X (dk D_Mi_isLetter 16 rfl) (by decide) ?_
            exact v_zret X hlk hrt rfl (dk D_Mi_isLetter 18 rfl) (by rw [if_pos (show isLet b = true from decide_eq_true (by first | exact Or.inr (Or.inr c27) | exact Or.inr (Or.inl ⟨c15, c21⟩) | exact Or.inl ⟨c3, c9⟩))]; exact ⟨rfl, rfl⟩)
set_option maxHeartbeats 4000000 in
set_option maxRecDepth 100000 in
theorem k_isDigit (l : Launch) (q : ev_T) {b : Int32} {g : mu_T}  : Ctr l q M_Mi_isDigit 0 [.int b] (0, 0, g) (fun v w => v = some (.int (if isDig b = true then 1 else 0)) ∧ w.2.2 = g) := by

  refine Ctr.mk (lb := [some (.int b)]) (by decide +kernel) (Nat.le_of_ble_eq_true rfl) rfl rfl ?_
  intro pp ee ss mm aa bb mt cd X hrt hlk hnm
  refine v_iload_n X (dk D_Mi_isDigit 0 rfl) rfl ?_
  refine v_bipush (v := 48) X (dk D_Mi_isDigit 1 rfl) (by decide) ?_
  refine v_icmp_lt (tgt := 16) X (dk D_Mi_isDigit 2 rfl) (by decide) (fun c3 => ?_) (fun c3 => ?_)
  · refine v_iconst (v := 0) X (dk D_Mi_isDigit 8 rfl) (by decide) ?_
    exact v_zret X hlk hrt rfl (dk D_Mi_isDigit 9 rfl) (by rw [if_neg (show ¬ isDig b = true from fun e => (of_decide_eq_true e).1 c3)]; exact ⟨rfl, rfl⟩)
  · refine v_iload_n X (dk D_Mi_isDigit 3 rfl) rfl ?_
    refine v_bipush (v := 57) X (dk D_Mi_isDigit 4 rfl) (by decide) ?_
    refine v_icmp_gt (tgt := 16) X (dk D_Mi_isDigit 5 rfl) (by decide) (fun c9 => ?_) (fun c9 => ?_)
    · refine v_iconst (v := 0) X (dk D_Mi_isDigit 8 rfl) (by decide) ?_
      exact v_zret X hlk hrt rfl (dk D_Mi_isDigit 9 rfl) (by rw [if_neg (show ¬ isDig b = true from fun e => (of_decide_eq_true e).2 c9)]; exact ⟨rfl, rfl⟩)
    · refine v_iconst (v := 1) X (dk D_Mi_isDigit 6 rfl) (by decide) ?_
      refine v_goto (tgt := 17) X (dk D_Mi_isDigit 7 rfl) (by decide) ?_
      exact v_zret X hlk hrt rfl (dk D_Mi_isDigit 9 rfl) (by rw [if_pos (show isDig b = true from decide_eq_true ⟨c3, c9⟩)]; exact ⟨rfl, rfl⟩)
set_option maxHeartbeats 4000000 in
set_option maxRecDepth 100000 in
theorem r_isLetter (l : Launch) (q : ev_T) {b : Int32} {g : mu_T}  : Ctr l q M_Rf_isLetter 0 [.int b] (0, 0, g) (fun v w => v = some (.int (if isLet b = true then 1 else 0)) ∧ w.2.2 = g) := by

  refine Ctr.mk (lb := [some (.int b)]) (by decide +kernel) (Nat.le_of_ble_eq_true rfl) rfl rfl ?_
  intro pp ee ss mm aa bb mt cd X hrt hlk hnm
  refine v_iload_n X (dk D_Rf_isLetter 0 rfl) rfl ?_
  refine v_bipush (v := 65) X (dk D_Rf_isLetter 1 rfl) (by decide) ?_
  refine v_icmp_lt (tgt := 12) X (dk D_Rf_isLetter 2 rfl) (by decide) (fun c3 => ?_) (fun c3 => ?_)
  · refine v_iload_n X (dk D_Rf_isLetter 6 rfl) rfl ?_
    refine v_bipush (v := 97) X (dk D_Rf_isLetter 7 rfl) (by decide) ?_
    refine v_icmp_lt (tgt := 24) X (dk D_Rf_isLetter 8 rfl) (by decide) (fun c15 => ?_) (fun c15 => ?_)
    · refine v_iload_n X (dk D_Rf_isLetter 12 rfl) rfl ?_
      refine v_bipush (v := 95) X (dk D_Rf_isLetter 13 rfl) (by decide) ?_
      refine v_icmp_ne (tgt := 34) X (dk D_Rf_isLetter 14 rfl) (by decide) (fun c27 => ?_) (fun c27 => ?_)
      · refine v_iconst (v := 0) X (dk D_Rf_isLetter 17 rfl) (by decide) ?_
        exact v_zret X hlk hrt rfl (dk D_Rf_isLetter 18 rfl) (by rw [if_neg (show ¬ isLet b = true from fun e => by rcases of_decide_eq_true e with e | e | e; (first | exact e.1 c3 | exact c9 e.2); (first | exact e.1 c15 | exact c21 e.2); exact c27 e)]; exact ⟨rfl, rfl⟩)
      · refine v_iconst (v := 1) X (dk D_Rf_isLetter 15 rfl) (by decide) ?_
        refine v_goto (tgt := 35) X (dk D_Rf_isLetter 16 rfl) (by decide) ?_
        exact v_zret X hlk hrt rfl (dk D_Rf_isLetter 18 rfl) (by rw [if_pos (show isLet b = true from decide_eq_true (by first | exact Or.inr (Or.inr c27) | exact Or.inr (Or.inl ⟨c15, c21⟩) | exact Or.inl ⟨c3, c9⟩))]; exact ⟨rfl, rfl⟩)
    · refine v_iload_n X (dk D_Rf_isLetter 9 rfl) rfl ?_
      refine v_bipush (v := 122) X (dk D_Rf_isLetter 10 rfl) (by decide) ?_
      refine v_icmp_le (tgt := 30) X (dk D_Rf_isLetter 11 rfl) (by decide) (fun c21 => ?_) (fun c21 => ?_)
      · refine v_iconst (v := 1) X (dk D_Rf_isLetter 15 rfl) (by decide) ?_
        refine v_goto (tgt := 35) X (dk D_Rf_isLetter 16 rfl) (by decide) ?_
        exact v_zret X hlk hrt rfl (dk D_Rf_isLetter 18 rfl) (by rw [if_pos (show isLet b = true from decide_eq_true (by first | exact Or.inr (Or.inr c27) | exact Or.inr (Or.inl ⟨c15, c21⟩) | exact Or.inl ⟨c3, c9⟩))]; exact ⟨rfl, rfl⟩)
      · refine v_iload_n X (dk D_Rf_isLetter 12 rfl) rfl ?_
        refine v_bipush (v := 95) X (dk D_Rf_isLetter 13 rfl) (by decide) ?_
        refine v_icmp_ne (tgt := 34) X (dk D_Rf_isLetter 14 rfl) (by decide) (fun c27 => ?_) (fun c27 => ?_)
        · refine v_iconst (v := 0) X (dk D_Rf_isLetter 17 rfl) (by decide) ?_
          exact v_zret X hlk hrt rfl (dk D_Rf_isLetter 18 rfl) (by rw [if_neg (show ¬ isLet b = true from fun e => by rcases of_decide_eq_true e with e | e | e; (first | exact e.1 c3 | exact c9 e.2); (first | exact e.1 c15 | exact c21 e.2); exact c27 e)]; exact ⟨rfl, rfl⟩)
        · refine v_iconst (v := 1) X (dk D_Rf_isLetter 15 rfl) (by decide) ?_
          refine v_goto (tgt := 35) X (dk D_Rf_isLetter 16 rfl) (by decide) ?_
          exact v_zret X hlk hrt rfl (dk D_Rf_isLetter 18 rfl) (by rw [if_pos (show isLet b = true from decide_eq_true (by first | exact Or.inr (Or.inr c27) | exact Or.inr (Or.inl ⟨c15, c21⟩) | exact Or.inl ⟨c3, c9⟩))]; exact ⟨rfl, rfl⟩)
  · refine v_iload_n X (dk D_Rf_isLetter 3 rfl) rfl ?_
    refine v_bipush (v := 90) X (dk D_Rf_isLetter 4 rfl) (by decide) ?_
    refine v_icmp_le (tgt := 30) X (dk D_Rf_isLetter 5 rfl) (by decide) (fun c9 => ?_) (fun c9 => ?_)
    · refine v_iconst (v := 1) X (dk D_Rf_isLetter 15 rfl) (by decide) ?_
      refine v_goto (tgt := 35) X (dk D_Rf_isLetter 16 rfl) (by decide) ?_
      exact v_zret X hlk hrt rfl (dk D_Rf_isLetter 18 rfl) (by rw [if_pos (show isLet b = true from decide_eq_true (by first | exact Or.inr (Or.inr c27) | exact Or.inr (Or.inl ⟨c15, c21⟩) | exact Or.inl ⟨c3, c9⟩))]; exact ⟨rfl, rfl⟩)
    · refine v_iload_n X (dk D_Rf_isLetter 6 rfl) rfl ?_
      refine v_bipush (v := 97) X (dk D_Rf_isLetter 7 rfl) (by decide) ?_
      refine v_icmp_lt (tgt := 24) X (dk D_Rf_isLetter 8 rfl) (by decide) (fun c15 => ?_) (fun c15 => ?_)
      · refine v_iload_n X (dk D_Rf_isLetter 12 rfl) rfl ?_
        refine v_bipush (v := 95) X (dk D_Rf_isLetter 13 rfl) (by decide) ?_
        refine v_icmp_ne (tgt := 34) X (dk D_Rf_isLetter 14 rfl) (by decide) (fun c27 => ?_) (fun c27 => ?_)
        · refine v_iconst (v := 0) X (dk D_Rf_isLetter 17 rfl) (by decide) ?_
          exact v_zret X hlk hrt rfl (dk D_Rf_isLetter 18 rfl) (by rw [if_neg (show ¬ isLet b = true from fun e => by rcases of_decide_eq_true e with e | e | e; (first | exact e.1 c3 | exact c9 e.2); (first | exact e.1 c15 | exact c21 e.2); exact c27 e)]; exact ⟨rfl, rfl⟩)
        · refine v_iconst (v := 1) X (dk D_Rf_isLetter 15 rfl) (by decide) ?_
          refine v_goto (tgt := 35) X (dk D_Rf_isLetter 16 rfl) (by decide) ?_
          exact v_zret X hlk hrt rfl (dk D_Rf_isLetter 18 rfl) (by rw [if_pos (show isLet b = true from decide_eq_true (by first | exact Or.inr (Or.inr c27) | exact Or.inr (Or.inl ⟨c15, c21⟩) | exact Or.inl ⟨c3, c9⟩))]; exact ⟨rfl, rfl⟩)
      · refine v_iload_n X (dk D_Rf_isLetter 9 rfl) rfl ?_
        refine v_bipush (v := 122) X (dk D_Rf_isLetter 10 rfl) (by decide) ?_
        refine v_icmp_le (tgt := 30) X (dk D_Rf_isLetter 11 rfl) (by decide) (fun c21 => ?_) (fun c21 => ?_)
        · refine v_iconst (v := 1) X (dk D_Rf_isLetter 15 rfl) (by decide) ?_
          refine v_goto (tgt := 35) X (dk D_Rf_isLetter 16 rfl) (by decide) ?_
          exact v_zret X hlk hrt rfl (dk D_Rf_isLetter 18 rfl) (by rw [if_pos (show isLet b = true from decide_eq_true (by first | exact Or.inr (Or.inr c27) | exact Or.inr (Or.inl ⟨c15, c21⟩) | exact Or.inl ⟨c3, c9⟩))]; exact ⟨rfl, rfl⟩)
        · refine v_iload_n X (dk D_Rf_isLetter 12 rfl) rfl ?_
          refine v_bipush (v := 95) X (dk D_Rf_isLetter 13 rfl) (by decide) ?_
          refine v_icmp_ne (tgt := 34) X (dk D_Rf_isLetter 14 rfl) (by decide) (fun c27 => ?_) (fun c27 => ?_)
          · refine v_iconst (v := 0) X (dk D_Rf_isLetter 17 rfl) (by decide) ?_
            exact v_zret X hlk hrt rfl (dk D_Rf_isLetter 18 rfl) (by rw [if_neg (show ¬ isLet b = true from fun e => by rcases of_decide_eq_true e with e | e | e; (first | exact e.1 c3 | exact c9 e.2); (first | exact e.1 c15 | exact c21 e.2); exact c27 e)]; exact ⟨rfl, rfl⟩)
          · refine v_iconst (v := 1) X (dk D_Rf_isLetter 15 rfl) (by decide) ?_
            refine v_goto (tgt := 35) X (dk D_Rf_isLetter 16 rfl) (by decide) ?_
            exact v_zret X hlk hrt rfl (dk D_Rf_isLetter 18 rfl) (by rw [if_pos (show isLet b = true from decide_eq_true (by first | exact Or.inr (Or.inr c27) | exact Or.inr (Or.inl ⟨c15, c21⟩) | exact Or.inl ⟨c3, c9⟩))]; exact ⟨rfl, rfl⟩)
set_option maxHeartbeats 4000000 in
set_option maxRecDepth 100000 in
theorem r_isDigit (l : Launch) (q : ev_T) {b : Int32} {g : mu_T}  : Ctr l q M_Rf_isDigit 0 [.int b] (0, 0, g) (fun v w => v = some (.int (if isDig b = true then 1 else 0)) ∧ w.2.2 = g) := by

  refine Ctr.mk (lb := [some (.int b)]) (by decide +kernel) (Nat.le_of_ble_eq_true rfl) rfl rfl ?_
  intro pp ee ss mm aa bb mt cd X hrt hlk hnm
  refine v_iload_n X (dk D_Rf_isDigit 0 rfl) rfl ?_
  refine v_bipush (v := 48) X (dk D_Rf_isDigit 1 rfl) (by decide) ?_
  refine v_icmp_lt (tgt := 16) X (dk D_Rf_isDigit 2 rfl) (by decide) (fun c3 => ?_) (fun c3 => ?_)
  · refine v_iconst (v := 0) X (dk D_Rf_isDigit 8 rfl) (by decide) ?_
    exact v_zret X hlk hrt rfl (dk D_Rf_isDigit 9 rfl) (by rw [if_neg (show ¬ isDig b = true from fun e => (of_decide_eq_true e).1 c3)]; exact ⟨rfl, rfl⟩)
  · refine v_iload_n X (dk D_Rf_isDigit 3 rfl) rfl ?_
    refine v_bipush (v := 57) X (dk D_Rf_isDigit 4 rfl) (by decide) ?_
    refine v_icmp_gt (tgt := 16) X (dk D_Rf_isDigit 5 rfl) (by decide) (fun c9 => ?_) (fun c9 => ?_)
    · refine v_iconst (v := 0) X (dk D_Rf_isDigit 8 rfl) (by decide) ?_
      exact v_zret X hlk hrt rfl (dk D_Rf_isDigit 9 rfl) (by rw [if_neg (show ¬ isDig b = true from fun e => (of_decide_eq_true e).2 c9)]; exact ⟨rfl, rfl⟩)
    · refine v_iconst (v := 1) X (dk D_Rf_isDigit 6 rfl) (by decide) ?_
      refine v_goto (tgt := 17) X (dk D_Rf_isDigit 7 rfl) (by decide) ?_
      exact v_zret X hlk hrt rfl (dk D_Rf_isDigit 9 rfl) (by rw [if_pos (show isDig b = true from decide_eq_true ⟨c3, c9⟩)]; exact ⟨rfl, rfl⟩)
set_option maxHeartbeats 4000000 in
set_option maxRecDepth 100000 in
theorem k_isNamePart (l : Launch) (q : ev_T) {b : Int32} {g : mu_T}  : Ctr l q M_Mi_isNamePart 1 [.int b] (0, 0, g) (fun v w => v = some (.int (if isNam b = true then 1 else 0)) ∧ w.2.2 = g) := by

  refine Ctr.mk (lb := [some (.int b)]) (by decide +kernel) (Nat.le_of_ble_eq_true rfl) rfl rfl ?_
  intro pp ee ss mm aa bb mt cd X hrt hlk hnm
  refine v_iload_n X (dk D_Mi_isNamePart 0 rfl) rfl ?_
  refine v_invS (As := [.int (b)]) (st := []) X (k_isLetter l q (b := b) (g := g)) (dk D_Mi_isNamePart 1 rfl) G_Mi_349 K_Mi_isLetter S_Mi_isLetter rfl rfl (Nat.le_of_ble_eq_true rfl) (Nat.le_of_ble_eq_true rfl) (Nat.le_of_ble_eq_true rfl) (Nat.le_of_ble_eq_true rfl) (Nat.le_of_ble_eq_true rfl) ?_
  rintro v w ⟨rfl, hw⟩
  rw [hw]
  show Vv _ _ _ _ _ _ _ _ _ _ _ _ _ _ _ (.int (if isLet (b) = true then 1 else 0) :: []) (0, 0, g)
  refine v_if_ne (tgt := 14) X (dk D_Mi_isNamePart 2 rfl) (by decide) (fun c4 => ?_) (fun c4 => ?_)
  · refine v_iconst (v := 1) X (dk D_Mi_isNamePart 6 rfl) (by decide) ?_
    refine v_goto (tgt := 19) X (dk D_Mi_isNamePart 7 rfl) (by decide) ?_
    exact v_zret X hlk hrt rfl (dk D_Mi_isNamePart 9 rfl) (by rw [if_pos (show isNam b = true from by rw [isNam, show isLet b = true from Decidable.byContradiction (fun e => c4 (if_neg e))]; rfl)]; exact ⟨rfl, rfl⟩)
  · refine v_iload_n X (dk D_Mi_isNamePart 3 rfl) rfl ?_
    refine v_invS (As := [.int (b)]) (st := []) X (k_isDigit l q (b := b) (g := g)) (dk D_Mi_isNamePart 4 rfl) G_Mi_267 K_Mi_isDigit S_Mi_isDigit rfl rfl (Nat.le_of_ble_eq_true rfl) (Nat.le_of_ble_eq_true rfl) (Nat.le_of_ble_eq_true rfl) (Nat.le_of_ble_eq_true rfl) (Nat.le_of_ble_eq_true rfl) ?_
    rintro v w ⟨rfl, hw⟩
    rw [hw]
    show Vv _ _ _ _ _ _ _ _ _ _ _ _ _ _ _ (.int (if isDig (b) = true then 1 else 0) :: []) (0, 0, g)
    refine v_if_eq (tgt := 18) X (dk D_Mi_isNamePart 5 rfl) (by decide) (fun c11 => ?_) (fun c11 => ?_)
    · refine v_iconst (v := 0) X (dk D_Mi_isNamePart 8 rfl) (by decide) ?_
      exact v_zret X hlk hrt rfl (dk D_Mi_isNamePart 9 rfl) (by rw [if_neg (show ¬ isNam b = true from by rw [isNam, show isLet b = false from Bool.eq_false_iff.mpr (fun e => absurd c4 (by rw [if_pos e]; decide)), show isDig b = false from Bool.eq_false_iff.mpr (fun e => absurd c11 (by rw [if_pos e]; decide))]; decide)]; exact ⟨rfl, rfl⟩)
    · refine v_iconst (v := 1) X (dk D_Mi_isNamePart 6 rfl) (by decide) ?_
      refine v_goto (tgt := 19) X (dk D_Mi_isNamePart 7 rfl) (by decide) ?_
      exact v_zret X hlk hrt rfl (dk D_Mi_isNamePart 9 rfl) (by rw [if_pos (show isNam b = true from by rw [isNam, show isDig b = true from Decidable.byContradiction (fun e => c11 (if_neg e)), Bool.or_true])]; exact ⟨rfl, rfl⟩)
theorem k_take1 (l : Launch) (q : ev_T) {fu : Nat} {I : Ip} {xs : List Int32} {g : mu_T} (hS : Shp g) (hI : IQ g fu I) (hX : RB g 12 13 32768 xs false) (hxl : xs.length + I.1.length ≤ 32768) : Ctr l q M_In_takeSome 2 [.ref 7, .int 1, .int 1] (0, 0, g) (fun v w => v = some (.int (if tkV I < 0 then 31 else 0)) ∧ sm g w.2.2 [7, 12, 13] ∧ IQ w.2.2 fu (tkI I) ∧ kp g w.2.2 ∧ RB w.2.2 12 13 32768 (xs ++ (if tkV I < 0 then [] else [I.1.getD 0 0])) false) :=
  (k_takeSome l q (n := 1) (kt := true) hS hI hX hxl (by decide)).weak fun v w h => by
    obtain ⟨h1, h2, h3, h4, h5⟩ := h
    by_cases c : tkV I < 0
    · have e : tkL 1 I = (false, I, []) := if_pos c
      rw [e] at h1 h3 h5
      rw [if_pos c, if_pos c, tk_bad (fun z => absurd z (Int32.not_le.mpr c))]
      exact ⟨h1, h2, h3, h4, h5⟩
    · have e : tkL 1 I = (true, tkI I, [I.1.getD 0 0]) := if_neg c
      rw [e] at h1 h3 h5
      rw [if_neg c, if_neg c]
      exact ⟨h1, h2, h3, h4, h5⟩
/-- a name is read: the error, what is left, the bytes -/
def rdN : Nat → Ip → Int32 × Ip × List Int32
  | 0, I => (0, I, [])
  | d + 1, I => if isNam (atL I.1 (nI 0)) = true then (if tkV I < 0 then (31, I, []) else ((rdN d (tkI I)).1, (rdN d (tkI I)).2.1, I.1.getD 0 0 :: (rdN d (tkI I)).2.2)) else (0, I, [])
def rdR : Nat → Ip → Int32 × Ip × List Int32
  | 0, I => (0, I, [])
  | d + 1, I => if I.1 = [] then (0, I, []) else if tkV I < 0 then (31, I, []) else if atL I.1 (nI 0) = 10 then (0, tkI I, [I.1.getD 0 0]) else ((rdR d (tkI I)).1, (rdR d (tkI I)).2.1, I.1.getD 0 0 :: (rdR d (tkI I)).2.2)
theorem tk_len {J : Ip} (h : ¬ tkV J < 0) : (tkI J).1.length + 1 = J.1.length := by
  obtain ⟨y, yu, t1, t2, t3⟩ := tk_yes (Int32.not_lt.mp h)
  rw [t1, t3]; rfl
set_option maxHeartbeats 4000000 in
set_option maxRecDepth 100000 in
theorem k_readName (l : Launch) (q : ev_T) {fu : Nat} {I : Ip} {xs : List Int32} {g : mu_T} (hS : Shp g) (hI : IQ g fu I) (hX : RB g 12 13 32768 xs false) (hxl : xs.length + I.1.length ≤ 32768) : Ctr l q M_In_readName 3 [.ref 7] (0, 0, g) (fun v w => v = some (.int (rdN 32768 I).1) ∧ sm g w.2.2 [7, 12, 13] ∧ IQ w.2.2 fu (rdN 32768 I).2.1 ∧ gI w.2.2 7 3 = 3 ∧ gI w.2.2 7 4 = gI g 7 4 ∧ RB w.2.2 12 13 32768 (xs ++ (rdN 32768 I).2.2) false) := by

  refine Ctr.mk (lb := [some (.ref 7), none, none]) (by decide +kernel) (Nat.le_of_ble_eq_true rfl) rfl rfl ?_
  intro pp ee ss mm aa bb mt cd X hrt hlk hnm
  have bad : ∀ (k : Int32) (u : mu_T) (J : Ip) (zs : List Int32), sm g u [7, 12, 13] → gI u 7 3 = 3 → gI u 7 4 = gI g 7 4 → IQ u fu J → RB u 12 13 32768 zs false → (rdN 32768 I).1 = 31 → (rdN 32768 I).2.1 = J → xs ++ (rdN 32768 I).2.2 = zs → Vv pp l ee (rmT 3 0 0) ss mm aa bb mt cd 3 q (MQ bb (Qw q (fun v w => v = some (.int (rdN 32768 I).1) ∧ sm g w.2.2 [7, 12, 13] ∧ IQ w.2.2 fu (rdN 32768 I).2.1 ∧ gI w.2.2 7 3 = 3 ∧ gI w.2.2 7 4 = gI g 7 4 ∧ RB w.2.2 12 13 32768 (xs ++ (rdN 32768 I).2.2) false)) aa ss 0 0 (fun a => q.1 ≤ a)) 9 [some (.ref 7), some (.int 31), some (.int k)] [] (0, 0, u) := by
    intro k u J zs hs hk3 hk4 hIu hRB e1 e2 e3
    have hSu := hS.sm hs
    refine v_iload_n X (dk D_In_readName 7 rfl) rfl ?_
    refine v_ldc X (dk D_In_readName 8 rfl) C_In_23 ?_
    refine v_icmp_ge (tgt := 43) X (dk D_In_readName 9 rfl) (by decide) (fun c12 => ?_) (fun c12 => ?_)
    · refine v_iload_n X (dk D_In_readName 24 rfl) rfl ?_
      exact v_iret X hlk hrt (dk D_In_readName 25 rfl) (by rw [e1, e2, e3]; exact ⟨rfl, hs, hIu, hk3, hk4, hRB⟩)
    · refine v_iload_n X (dk D_In_readName 10 rfl) rfl ?_
      refine v_if_ne (tgt := 43) X (dk D_In_readName 11 rfl) (by decide) (fun _ => ?_) (fun c16 => absurd c16 (by decide))
      refine v_iload_n X (dk D_In_readName 24 rfl) rfl ?_
      exact v_iret X hlk hrt (dk D_In_readName 25 rfl) (by rw [e1, e2, e3]; exact ⟨rfl, hs, hIu, hk3, hk4, hRB⟩)
  have loop : ∀ (d k : Nat) (u : mu_T) (J : Ip) (zs : List Int32), k + d = 32768 → sm g u [7, 12, 13] → gI u 7 3 = 3 → gI u 7 4 = gI g 7 4 → IQ u fu J → RB u 12 13 32768 zs false → zs.length + J.1.length ≤ 32768 → (rdN 32768 I).1 = (rdN d J).1 → (rdN 32768 I).2.1 = (rdN d J).2.1 → xs ++ (rdN 32768 I).2.2 = zs ++ (rdN d J).2.2 → Vv pp l ee (rmT 3 0 0) ss mm aa bb mt cd 3 q (MQ bb (Qw q (fun v w => v = some (.int (rdN 32768 I).1) ∧ sm g w.2.2 [7, 12, 13] ∧ IQ w.2.2 fu (rdN 32768 I).2.1 ∧ gI w.2.2 7 3 = 3 ∧ gI w.2.2 7 4 = gI g 7 4 ∧ RB w.2.2 12 13 32768 (xs ++ (rdN 32768 I).2.2) false)) aa ss 0 0 (fun a => q.1 ≤ a)) 9 [some (.ref 7), some (.int 0), some (.int (nI k))] [] (0, 0, u) := by
    intro d
    induction d with
    | zero =>
      intro k u J zs hkd hs hk3 hk4 hIu hRB hzl e1 e2 e3
      have hSu := hS.sm hs
      refine v_iload_n X (dk D_In_readName 7 rfl) rfl ?_
      refine v_ldc X (dk D_In_readName 8 rfl) C_In_23 ?_
      refine v_icmp_ge (tgt := 43) X (dk D_In_readName 9 rfl) (by decide) (fun _ => ?_) (fun c12 => absurd (nI_le (a := 32768) (by omega) (by omega)) c12)
      refine v_iload_n X (dk D_In_readName 24 rfl) rfl ?_
      exact v_iret X hlk hrt (dk D_In_readName 25 rfl) (by rw [e1, e2, e3]; refine ⟨rfl, hs, hIu, hk3, hk4, ?_⟩; show RB _ _ _ _ (zs ++ []) _; rw [List.append_nil]; exact hRB)
    | succ d ih =>
      intro k u J zs hkd hs hk3 hk4 hIu hRB hzl e1 e2 e3
      have hSu := hS.sm hs
      refine v_iload_n X (dk D_In_readName 7 rfl) rfl ?_
      refine v_ldc X (dk D_In_readName 8 rfl) C_In_23 ?_
      refine v_icmp_ge (tgt := 43) X (dk D_In_readName 9 rfl) (by decide) (fun c12 => absurd c12 (nI_ge (b := 32768) (by omega) (by decide))) (fun _ => ?_)
      refine v_iload_n X (dk D_In_readName 10 rfl) rfl ?_
      refine v_if_ne (tgt := 43) X (dk D_In_readName 11 rfl) (by decide) (fun c16 => absurd (by decide) c16) (fun _ => ?_)
      refine v_aload_n X (dk D_In_readName 12 rfl) rfl ?_
      refine v_iconst (v := nI 0) X (dk D_In_readName 13 rfl) (by decide) ?_
      refine v_invV (As := [.int (nI 0)]) (st := []) X (k_peek l q (k := 0) hSu hIu (by decide)) (dk D_In_readName 14 rfl) G_In_92 K_In_peek V_In_peek rfl rfl (hSu.lt (by decide)) rfl rfl (Nat.le_of_ble_eq_true rfl) (Nat.le_of_ble_eq_true rfl) (Nat.le_of_ble_eq_true rfl) (Nat.le_of_ble_eq_true rfl) (Nat.le_of_ble_eq_true rfl) ?_
      rintro v w ⟨rfl, hw⟩
      rw [hw]
      show Vv _ _ _ _ _ _ _ _ _ _ _ _ _ _ _ [.int (atL J.1 (nI 0))] (0, 0, u)
      refine v_invS (As := [.int (atL J.1 (nI 0))]) (st := []) X (k_isNamePart l q (b := atL J.1 (nI 0)) (g := u)) (dk D_In_readName 15 rfl) G_In_119 K_Mi_isNamePart S_Mi_isNamePart rfl rfl (Nat.le_of_ble_eq_true rfl) (Nat.le_of_ble_eq_true rfl) (Nat.le_of_ble_eq_true rfl) (Nat.le_of_ble_eq_true rfl) (Nat.le_of_ble_eq_true rfl) ?_
      rintro v w ⟨rfl, hw⟩
      rw [hw]
      show Vv _ _ _ _ _ _ _ _ _ _ _ _ _ _ _ (.int (if isNam (atL J.1 (nI 0)) = true then 1 else 0) :: []) (0, 0, u)
      refine v_if_eq (tgt := 43) X (dk D_In_readName 16 rfl) (by decide) (fun c27 => ?_) (fun c27 => ?_)
      · refine v_iload_n X (dk D_In_readName 24 rfl) rfl ?_
        exact v_iret X hlk hrt (dk D_In_readName 25 rfl) (by rw [e1, e2, e3, show rdN (d + 1) J = (0, J, []) from if_neg (fun e => absurd c27 (by rw [if_pos e]; decide))]; refine ⟨rfl, hs, hIu, hk3, hk4, ?_⟩; show RB _ _ _ _ (zs ++ []) _; rw [List.append_nil]; exact hRB)
      · refine v_aload_n X (dk D_In_readName 17 rfl) rfl ?_
        refine v_iconst (v := 1) X (dk D_In_readName 18 rfl) (by decide) ?_
        refine v_iconst (v := 1) X (dk D_In_readName 19 rfl) (by decide) ?_
        refine v_invV (As := [.int 1, .int 1]) (st := []) X (k_take1 l q hSu hIu hRB hzl) (dk D_In_readName 20 rfl) G_In_115 K_In_takeSome V_In_takeSome rfl rfl (hSu.lt (by decide)) rfl rfl (Nat.le_of_ble_eq_true rfl) (Nat.le_of_ble_eq_true rfl) (Nat.le_of_ble_eq_true rfl) (Nat.le_of_ble_eq_true rfl) (Nat.le_of_ble_eq_true rfl) ?_
        rintro v w ⟨rfl, hw1, hw2, hw3, hw4⟩
        show Vv _ _ _ _ _ _ _ _ _ _ _ _ _ _ _ [.int (if tkV J < 0 then 31 else 0)] (0, 0, w.2.2)
        refine v_istore_n (lb := [some (.ref 7), some (.int (if tkV J < 0 then 31 else 0)), some (.int (nI k))]) X (dk D_In_readName 21 rfl) (by decide) rfl ?_
        refine v_iinc (v := nI (k + 1)) (lb := [some (.ref 7), some (.int (if tkV J < 0 then 31 else 0)), some (.int (nI (k + 1)))]) X (dk D_In_readName 22 rfl) rfl (nI_1 k) (by decide) rfl ?_
        refine v_goto (tgt := 9) X (dk D_In_readName 23 rfl) (by decide) ?_
        have hcn : isNam (atL J.1 (nI 0)) = true := Decidable.byContradiction (fun e => c27 (if_neg e))
        have hs2 := hs.tr hw1 (U := [7, 12, 13]) (fun _ z => z) (fun _ z => z)
        by_cases hc : tkV J < 0
        · have e : rdN (d + 1) J = (31, J, []) := (if_pos hcn).trans (if_pos hc)
          rw [e] at e1 e2 e3
          rw [if_pos hc, List.append_nil] at hw4
          rw [tk_bad (fun z => absurd z (Int32.not_le.mpr hc))] at hw2
          rw [show (if tkV J < 0 then (31 : Int32) else 0) = 31 from if_pos hc]
          exact bad _ _ _ _ hs2 (hw3.1.trans hk3) (hw3.2.trans hk4) hw2 hw4 e1 e2 (by rw [e3, List.append_nil])
        · have e : rdN (d + 1) J = ((rdN d (tkI J)).1, (rdN d (tkI J)).2.1, J.1.getD 0 0 :: (rdN d (tkI J)).2.2) := (if_pos hcn).trans (if_neg hc)
          rw [e] at e1 e2 e3
          have hl := tk_len hc
          rw [if_neg hc] at hw4
          rw [show (if tkV J < 0 then (31 : Int32) else 0) = 0 from if_neg hc]
          exact ih (k + 1) _ _ _ (by omega) hs2 (hw3.1.trans hk3) (hw3.2.trans hk4) hw2 hw4 (by rw [List.length_append]; show zs.length + 1 + _ ≤ _; omega) e1 e2 (by rw [e3, List.append_assoc]; rfl)
  refine v_aload_n X (dk D_In_readName 0 rfl) rfl ?_
  refine v_iconst (v := 3) X (dk D_In_readName 1 rfl) (by decide) ?_
  refine v_putI X (dk D_In_readName 2 rfl) F_In_95 CK_In rfl rfl (hS.lt (by decide)) rfl rfl ?_
  refine v_iconst (v := 0) X (dk D_In_readName 3 rfl) (by decide) ?_
  refine v_istore_n (lb := [some (.ref 7), some (.int 0), none]) X (dk D_In_readName 4 rfl) (by decide) rfl ?_
  refine v_iconst (v := nI 0) X (dk D_In_readName 5 rfl) (by decide) ?_
  refine v_istore_n (lb := [some (.ref 7), some (.int 0), some (.int (nI 0))]) X (dk D_In_readName 6 rfl) (by decide) rfl ?_
  exact loop 32768 0 _ I xs (by decide) ((sm.rf g _).xI (by decide)) (gI_eq _ _ _ _) (gI_nk (by decide)) (hI.kt 3 _ (by decide)) (hX.sm ((sm.rf g [7]).xI (by simp)) (by decide) (by decide)) hxl rfl rfl rfl
