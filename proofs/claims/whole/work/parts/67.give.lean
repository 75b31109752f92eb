/-! what a call gives: arguments, the text with its marks -/
theorem ag_le {f : Fr} {r : List Fr} (i : Nat) : stA f r i + (f.2.1.getD i []).length ≤ (hl (f :: r)).length := by
  have := stA_le (f := f) (r := r) (i + 1)
  rw [stA_succ] at this
  exact this
theorem ag_byte {f : Fr} {r : List Fr} {i : Nat} (h : ∀ x ∈ hl (f :: r), isByte x) : ∀ x ∈ f.2.1.getD i [], isByte x := fun x hx => by
  rw [← hl_slice (f := f) (r := r) i] at hx
  exact h x (List.mem_of_mem_drop (List.mem_of_mem_take hx))
theorem na_le {f : Fr} {r : List Fr} : f.2.1.length ≤ na (f :: r) := by rw [na]; omega
theorem CS_R : ∀ a ∈ CS, a ∉ [5, 6] := by decide
/-- the pieces with commas between them -/
def jn (w : List Int32 → List Int32) : List (List Int32) → List Int32
  | [] => []
  | [a] => w a
  | a :: b :: as => w a ++ 44 :: jn w (b :: as)
def qtd (qd : Bool) (op cl a : List Int32) : List Int32 := if qd = true then op ++ a ++ cl else a
/-- from argument i on, each with a comma before it but the first -/
def jnF (w : List Int32 → List Int32) (first i : Nat) : List (List Int32) → List Int32
  | [] => []
  | a :: as => (if first < i then [44] else []) ++ w a ++ jnF w first (i + 1) as
theorem jnF_gt {w : List Int32 → List Int32} {first : Nat} : ∀ {as : List (List Int32)} {i : Nat}, first < i → as ≠ [] → jnF w first i as = 44 :: jn w as
  | [], _, _, h => absurd rfl h
  | [a], i, hi, _ => by rw [jnF, if_pos hi, jnF, jn, List.append_nil]; rfl
  | a :: b :: as, i, hi, _ => by
    rw [jnF, if_pos hi, jnF_gt (by omega) (List.cons_ne_nil _ _), jn]; rfl
theorem jnF_jn {w : List Int32 → List Int32} {first : Nat} : ∀ {as : List (List Int32)}, jnF w first first as = jn w as
  | [] => rfl
  | [a] => by rw [jnF, if_neg (by omega), jnF, jn, List.append_nil, List.nil_append]
  | a :: b :: as => by
    rw [jnF, if_neg (by omega), jnF_gt (by omega) (List.cons_ne_nil _ _), jn, List.nil_append]
/-- what is too long stays so -/
theorem RE_over {g : mu_T} {F : List Int32} (G : List Int32) (h : RE g F) (ho : gI g 5 2 ≠ 0) : RE g (F ++ G) := by
  obtain ⟨xs, ov, h1, h2, h3⟩ := h
  refine ⟨xs, ov, h1, ?_, h3⟩
  rcases h2 with ⟨a, b⟩ | ⟨a, b⟩
  · have a : ov = false := a
    subst a
    exact absurd h1.2.2.2.1 ho
  · exact Or.inr ⟨a, by rw [List.length_append]; omega⟩
set_option maxHeartbeats 4000000 in
set_option maxRecDepth 100000 in
theorem k_addArgument (l : Launch) (q : ev_T) {i : Nat} {f : Fr} {r : List Fr} {cm : Bool} {F : List Int32} {g : mu_T} (hS : Shp g) (hC : CA g (f :: r) cm) (hfb : ∀ x ∈ hl (f :: r), isByte x) (hR : RE g F) (hi : i < 900000) : Ctr l q M_Mi_addArgument 2 [.ref 0, .int (nI i)] (0, 0, g) (fun v w => v = none ∧ sm g w.2.2 [5, 6] ∧ RE w.2.2 (F ++ (f.2.1.getD i []))) := by

  refine Ctr.mk (lb := [some (.ref 0), some (.int (nI i))]) (by decide +kernel) (Nat.le_of_ble_eq_true rfl) rfl rfl ?_
  intro pp ee ss mm aa bb mt cd X hrt hlk hnm
  refine v_aload_n X (dk D_Mi_addArgument 0 rfl) rfl ?_
  refine v_getF X (dk D_Mi_addArgument 1 rfl) F_Mi_24 rfl rfl (hS.lt (by decide)) (hS.2 0 2) ?_
  refine v_aload_n X (dk D_Mi_addArgument 2 rfl) rfl ?_
  refine v_getF X (dk D_Mi_addArgument 3 rfl) F_Mi_37 rfl rfl (hS.lt (by decide)) (hS.2 0 4) ?_
  refine v_getF X (dk D_Mi_addArgument 4 rfl) F_Mi_219 rfl rfl (hS.lt (by decide)) (hS.2 17 0) ?_
  refine v_aload_n X (dk D_Mi_addArgument 5 rfl) rfl ?_
  refine v_getF X (dk D_Mi_addArgument 6 rfl) F_Mi_37 rfl rfl (hS.lt (by decide)) (hS.2 0 4) ?_
  refine v_iload_n X (dk D_Mi_addArgument 7 rfl) rfl ?_
  refine v_invV (As := [.int (nI i)]) (st := [.ref 18, .ref 5]) X (k_start l q (i := i) hS hC (by omega)) (dk D_Mi_addArgument 8 rfl) G_Mi_283 K_Ca_start V_Ca_start rfl rfl (hS.lt (by decide)) rfl rfl (Nat.le_of_ble_eq_true rfl) (Nat.le_of_ble_eq_true rfl) (Nat.le_of_ble_eq_true rfl) (Nat.le_of_ble_eq_true rfl) (Nat.le_of_ble_eq_true rfl) ?_
  rintro v ws ⟨rfl, hws⟩
  rw [hws]
  show Vv _ _ _ _ _ _ _ _ _ _ _ _ _ _ _ [.int (nI (stA f r i)), .ref 18, .ref 5] (0, 0, g)
  refine v_aload_n X (dk D_Mi_addArgument 9 rfl) rfl ?_
  refine v_getF X (dk D_Mi_addArgument 10 rfl) F_Mi_37 rfl rfl (hS.lt (by decide)) (hS.2 0 4) ?_
  refine v_iload_n X (dk D_Mi_addArgument 11 rfl) rfl ?_
  refine v_invV (As := [.int (nI i)]) (st := [.int (nI (stA f r i)), .ref 18, .ref 5]) X (k_length l q (i := i) hS hC (by omega)) (dk D_Mi_addArgument 12 rfl) G_Mi_286 K_Ca_length V_Ca_length rfl rfl (hS.lt (by decide)) rfl rfl (Nat.le_of_ble_eq_true rfl) (Nat.le_of_ble_eq_true rfl) (Nat.le_of_ble_eq_true rfl) (Nat.le_of_ble_eq_true rfl) (Nat.le_of_ble_eq_true rfl) ?_
  rintro v ws ⟨rfl, hws⟩
  rw [hws]
  show Vv _ _ _ _ _ _ _ _ _ _ _ _ _ _ _ [.int (nI (f.2.1.getD i []).length), .int (nI (stA f r i)), .ref 18, .ref 5] (0, 0, g)
  refine v_invV (As := [.ref 18, .int (nI (stA f r i)), .int (nI (f.2.1.getD i []).length)]) (st := []) X (kr_addPart l q hR hC.1 (ag_le i) (by decide) hfb) (dk D_Mi_addArgument 13 rfl) G_Mi_73 K_By_addPart V_By_addPart rfl rfl (hS.lt (by decide)) rfl rfl (Nat.le_of_ble_eq_true rfl) (Nat.le_of_ble_eq_true rfl) (Nat.le_of_ble_eq_true rfl) (Nat.le_of_ble_eq_true rfl) (Nat.le_of_ble_eq_true rfl) ?_
  rintro v w ⟨rfl, y1, y2⟩
  rw [hl_slice] at y2
  show Vv _ _ _ _ _ _ _ _ _ _ _ _ _ _ _ [] (0, 0, w.2.2)
  exact v_vret X hlk hrt (dk D_Mi_addArgument 14 rfl) ⟨rfl, y1, y2⟩
set_option maxHeartbeats 4000000 in
set_option maxRecDepth 100000 in
theorem k_addArguments (l : Launch) (q : ev_T) {first : Nat} {qd : Bool} {f : Fr} {r : List Fr} {cm : Bool} {F op cl : List Int32} {oo oc : Bool} {g : mu_T} (hS : Shp g) (hC : CA g (f :: r) cm) (hfb : ∀ x ∈ hl (f :: r), isByte x) (hR : RE g F) (hO : RB g 8 9 4 op oo) (hQ : RB g 10 11 4 cl oc) (hob : ∀ x ∈ op, isByte x) (hcb : ∀ x ∈ cl, isByte x) (hf : first < 10) : Ctr l q M_Mi_addArguments 3 [.ref 0, .int (nI first), .int (if qd = true then 1 else 0)] (0, 0, g) (fun v w => v = none ∧ sm g w.2.2 [5, 6] ∧ RE w.2.2 (F ++ jn (qtd qd op cl) (f.2.1.drop first))) := by
  have hna : f.2.1.length ≤ 8192 := Nat.le_trans (na_le (f := f) (r := r)) hC.2.2.2.2.2.1
  refine Ctr.mk (lb := [some (.ref 0), some (.int (nI first)), some (.int (if qd = true then 1 else 0)), none]) (by decide +kernel) (Nat.le_of_ble_eq_true rfl) rfl rfl ?_
  intro pp ee ss mm aa bb mt cd X hrt hlk hnm
  have lead : ¬ first ≤ f.2.1.length → Vv pp l ee (rmT 3 0 0) ss mm aa bb mt cd 4 q (MQ bb (Qw q (fun v w => v = none ∧ sm g w.2.2 [5, 6] ∧ RE w.2.2 (F ++ jn (qtd qd op cl) (f.2.1.drop first)))) aa ss 0 0 (fun a => q.1 ≤ a)) 2 [some (.ref 0), some (.int (nI first)), some (.int (if qd = true then 1 else 0)), some (.int (nI first))] [] (0, 0, g) := by
    intro hfn
    refine v_iload_n X (dk D_Mi_addArguments 2 rfl) rfl ?_
    refine v_aload_n X (dk D_Mi_addArguments 3 rfl) rfl ?_
    refine v_getF X (dk D_Mi_addArguments 4 rfl) F_Mi_37 rfl rfl (hS.lt (by decide)) (hS.2 0 4) ?_
    refine v_invV (As := []) (st := [.int (nI first)]) X (k_arguments l q hS hC) (dk D_Mi_addArguments 5 rfl) G_Mi_273 K_Ca_arguments V_Ca_arguments rfl rfl (hS.lt (by decide)) rfl rfl (Nat.le_of_ble_eq_true rfl) (Nat.le_of_ble_eq_true rfl) (Nat.le_of_ble_eq_true rfl) (Nat.le_of_ble_eq_true rfl) (Nat.le_of_ble_eq_true rfl) ?_
    rintro v ws ⟨rfl, hws⟩
    rw [hws]
    show Vv _ _ _ _ _ _ _ _ _ _ _ _ _ _ _ [.int (nI f.2.1.length), .int (nI first)] (0, 0, g)
    refine v_icmp_ge (tgt := 106) X (dk D_Mi_addArguments 6 rfl) (by decide) (fun _ => ?_) (fun c10 => absurd (nI_le (by omega) (by omega)) c10)
    exact v_vret X hlk hrt (dk D_Mi_addArguments 49 rfl) ⟨rfl, sm.rf _ _, by rw [List.drop_eq_nil_of_le (by omega), jn, List.append_nil]; exact hR⟩
  have loop : ∀ (d i : Nat) (u : mu_T) (G : List Int32), i + d = f.2.1.length → sm g u [5, 6] → RE u G → F ++ jn (qtd qd op cl) (f.2.1.drop first) = G ++ jnF (qtd qd op cl) first i (f.2.1.drop i) → first ≤ i → Vv pp l ee (rmT 3 0 0) ss mm aa bb mt cd 4 q (MQ bb (Qw q (fun v w => v = none ∧ sm g w.2.2 [5, 6] ∧ RE w.2.2 (F ++ jn (qtd qd op cl) (f.2.1.drop first)))) aa ss 0 0 (fun a => q.1 ≤ a)) 2 [some (.ref 0), some (.int (nI first)), some (.int (if qd = true then 1 else 0)), some (.int (nI i))] [] (0, 0, u) := by
    intro d
    induction d with
    | zero =>
      intro i u G hid zu hRu hG hfi
      have hSu := hS.sm zu
      have hCu := hC.sm zu CS_R
      refine v_iload_n X (dk D_Mi_addArguments 2 rfl) rfl ?_
      refine v_aload_n X (dk D_Mi_addArguments 3 rfl) rfl ?_
      refine v_getF X (dk D_Mi_addArguments 4 rfl) F_Mi_37 rfl rfl (hSu.lt (by decide)) (hSu.2 0 4) ?_
      refine v_invV (As := []) (st := [.int (nI i)]) X (k_arguments l q hSu hCu) (dk D_Mi_addArguments 5 rfl) G_Mi_273 K_Ca_arguments V_Ca_arguments rfl rfl (hSu.lt (by decide)) rfl rfl (Nat.le_of_ble_eq_true rfl) (Nat.le_of_ble_eq_true rfl) (Nat.le_of_ble_eq_true rfl) (Nat.le_of_ble_eq_true rfl) (Nat.le_of_ble_eq_true rfl) ?_
      rintro v ws ⟨rfl, hws⟩
      rw [hws]
      show Vv _ _ _ _ _ _ _ _ _ _ _ _ _ _ _ [.int (nI f.2.1.length), .int (nI i)] (0, 0, u)
      refine v_icmp_ge (tgt := 106) X (dk D_Mi_addArguments 6 rfl) (by decide) (fun _ => ?_) (fun c10 => absurd (nI_le (by omega) (by omega)) c10)
      exact v_vret X hlk hrt (dk D_Mi_addArguments 49 rfl) ⟨rfl, zu, by rw [hG, List.drop_eq_nil_of_le (by omega), jnF, List.append_nil]; exact hRu⟩
    | succ d ih =>
      intro i u G hid zu hRu hG hfi
      have hSu := hS.sm zu
      have hCu := hC.sm zu CS_R
      have hdr : f.2.1.drop i = (f.2.1.getD i []) :: f.2.1.drop (i + 1) := by rw [List.drop_eq_getElem_cons (by omega), List.getD_eq_getElem?_getD, List.getElem?_eq_getElem (by omega)]; rfl
      have hG2 : F ++ jn (qtd qd op cl) (f.2.1.drop first) = G ++ ((if first < i then [44] else []) ++ (qtd qd op cl) (f.2.1.getD i []) ++ jnF (qtd qd op cl) first (i + 1) (f.2.1.drop (i + 1))) := by rw [hG, hdr, jnF]
      have mid : ∀ (v1 : mu_T) (H : List Int32), sm g v1 [5, 6] → RE v1 H → F ++ jn (qtd qd op cl) (f.2.1.drop first) = H ++ ((qtd qd op cl) (f.2.1.getD i []) ++ jnF (qtd qd op cl) first (i + 1) (f.2.1.drop (i + 1))) → Vv pp l ee (rmT 3 0 0) ss mm aa bb mt cd 4 q (MQ bb (Qw q (fun v w => v = none ∧ sm g w.2.2 [5, 6] ∧ RE w.2.2 (F ++ jn (qtd qd op cl) (f.2.1.drop first)))) aa ss 0 0 (fun a => q.1 ≤ a)) 37 [some (.ref 0), some (.int (nI first)), some (.int (if qd = true then 1 else 0)), some (.int (nI i))] [] (0, 0, v1) := by
        intro v1 H zv hRv hH
        have hSv := hS.sm zv
        have hCv := hC.sm zv CS_R
        rcases (show qd = true ∨ qd = false by cases qd <;> simp) with hq | hq
        · refine v_iload_n X (dk D_Mi_addArguments 18 rfl) rfl ?_
          refine v_if_eq (tgt := 66) X (dk D_Mi_addArguments 19 rfl) (by decide) (fun c38 => absurd c38 (by rw [hq]; decide)) (fun _ => ?_)
          refine v_aload_n X (dk D_Mi_addArguments 20 rfl) rfl ?_
          refine v_getF X (dk D_Mi_addArguments 21 rfl) F_Mi_24 rfl rfl (hSv.lt (by decide)) (hSv.2 0 2) ?_
          refine v_aload_n X (dk D_Mi_addArguments 22 rfl) rfl ?_
          refine v_getF X (dk D_Mi_addArguments 23 rfl) F_Mi_30 rfl rfl (hSv.lt (by decide)) (hSv.2 0 3) ?_
          refine v_getF X (dk D_Mi_addArguments 24 rfl) F_Mi_289 rfl rfl (hSv.lt (by decide)) (hSv.2 7 0) ?_
          refine v_iconst (v := nI 0) X (dk D_Mi_addArguments 25 rfl) (by decide) ?_
          refine v_aload_n X (dk D_Mi_addArguments 26 rfl) rfl ?_
          refine v_getF X (dk D_Mi_addArguments 27 rfl) F_Mi_30 rfl rfl (hSv.lt (by decide)) (hSv.2 0 3) ?_
          refine v_getF X (dk D_Mi_addArguments 28 rfl) F_Mi_289 rfl rfl (hSv.lt (by decide)) (hSv.2 7 0) ?_
          refine v_getI X (dk D_Mi_addArguments 29 rfl) F_Mi_66 rfl rfl (hSv.lt (by decide)) ?_
          rw [show gI v1 8 1 = nI op.length from (hO.sm zv (by simp) (by simp)).2.2.1]
          refine v_invV (As := [.ref 8, .int (nI 0), .int (nI op.length)]) (st := []) X (kr_addPart l q (f := 0) (k := op.length) hRv (hO.sm zv (by simp) (by simp)) (by omega) (by decide) hob) (dk D_Mi_addArguments 30 rfl) G_Mi_73 K_By_addPart V_By_addPart rfl rfl (hSv.lt (by decide)) rfl rfl (Nat.le_of_ble_eq_true rfl) (Nat.le_of_ble_eq_true rfl) (Nat.le_of_ble_eq_true rfl) (Nat.le_of_ble_eq_true rfl) (Nat.le_of_ble_eq_true rfl) ?_
          rintro v w1 ⟨rfl, b1, b2⟩
          rw [List.drop_zero, List.take_length] at b2
          have S1 := hSv.sm b1
          have C1 := hCv.sm b1 CS_R
          show Vv _ _ _ _ _ _ _ _ _ _ _ _ _ _ _ [] (0, 0, w1.2.2)
          refine v_aload_n X (dk D_Mi_addArguments 31 rfl) rfl ?_
          refine v_iload_n X (dk D_Mi_addArguments 32 rfl) rfl ?_
          refine v_invV (As := [.int (nI i)]) (st := []) X (k_addArgument l q (i := i) S1 C1 hfb b2 (by omega)) (dk D_Mi_addArguments 33 rfl) G_Mi_270 K_Mi_addArgument V_Mi_addArgument rfl rfl (S1.lt (by decide)) rfl rfl (Nat.le_of_ble_eq_true rfl) (Nat.le_of_ble_eq_true rfl) (Nat.le_of_ble_eq_true rfl) (Nat.le_of_ble_eq_true rfl) (Nat.le_of_ble_eq_true rfl) ?_
          rintro v w2 ⟨rfl, a1, a2⟩
          have zw2 := (zv.tr b1 (U := [5, 6]) (fun _ h => h) (fun _ h => h)).tr a1 (U := [5, 6]) (fun _ h => h) (fun _ h => h)
          have S2 := hS.sm zw2
          show Vv _ _ _ _ _ _ _ _ _ _ _ _ _ _ _ [] (0, 0, w2.2.2)
          refine v_iload_n X (dk D_Mi_addArguments 34 rfl) rfl ?_
          refine v_if_eq (tgt := 100) X (dk D_Mi_addArguments 35 rfl) (by decide) (fun c72 => absurd c72 (by rw [hq]; decide)) (fun _ => ?_)
          refine v_aload_n X (dk D_Mi_addArguments 36 rfl) rfl ?_
          refine v_getF X (dk D_Mi_addArguments 37 rfl) F_Mi_24 rfl rfl (S2.lt (by decide)) (S2.2 0 2) ?_
          refine v_aload_n X (dk D_Mi_addArguments 38 rfl) rfl ?_
          refine v_getF X (dk D_Mi_addArguments 39 rfl) F_Mi_30 rfl rfl (S2.lt (by decide)) (S2.2 0 3) ?_
          refine v_getF X (dk D_Mi_addArguments 40 rfl) F_Mi_292 rfl rfl (S2.lt (by decide)) (S2.2 7 1) ?_
          refine v_iconst (v := nI 0) X (dk D_Mi_addArguments 41 rfl) (by decide) ?_
          refine v_aload_n X (dk D_Mi_addArguments 42 rfl) rfl ?_
          refine v_getF X (dk D_Mi_addArguments 43 rfl) F_Mi_30 rfl rfl (S2.lt (by decide)) (S2.2 0 3) ?_
          refine v_getF X (dk D_Mi_addArguments 44 rfl) F_Mi_292 rfl rfl (S2.lt (by decide)) (S2.2 7 1) ?_
          refine v_getI X (dk D_Mi_addArguments 45 rfl) F_Mi_66 rfl rfl (S2.lt (by decide)) ?_
          rw [show gI w2.2.2 10 1 = nI cl.length from (hQ.sm zw2 (by simp) (by simp)).2.2.1]
          refine v_invV (As := [.ref 10, .int (nI 0), .int (nI cl.length)]) (st := []) X (kr_addPart l q (f := 0) (k := cl.length) a2 (hQ.sm zw2 (by simp) (by simp)) (by omega) (by decide) hcb) (dk D_Mi_addArguments 46 rfl) G_Mi_73 K_By_addPart V_By_addPart rfl rfl (S2.lt (by decide)) rfl rfl (Nat.le_of_ble_eq_true rfl) (Nat.le_of_ble_eq_true rfl) (Nat.le_of_ble_eq_true rfl) (Nat.le_of_ble_eq_true rfl) (Nat.le_of_ble_eq_true rfl) ?_
          rintro v w3 ⟨rfl, d1, d2⟩
          rw [List.drop_zero, List.take_length] at d2
          show Vv _ _ _ _ _ _ _ _ _ _ _ _ _ _ _ [] (0, 0, w3.2.2)
          refine v_iinc (v := nI (i + 1)) (lb := [some (.ref 0), some (.int (nI first)), some (.int (if qd = true then 1 else 0)), some (.int (nI (i + 1)))]) X (dk D_Mi_addArguments 47 rfl) rfl (nI_1 i) (by decide) rfl ?_
          refine v_goto (tgt := 2) X (dk D_Mi_addArguments 48 rfl) (by decide) ?_
          exact ih (i + 1) w3.2.2 _ (by omega) (zw2.tr d1 (U := [5, 6]) (fun _ h => h) (fun _ h => h)) d2 (by rw [hH, qtd, if_pos hq]; simp only [List.append_assoc]) (by omega)
        · refine v_iload_n X (dk D_Mi_addArguments 18 rfl) rfl ?_
          refine v_if_eq (tgt := 66) X (dk D_Mi_addArguments 19 rfl) (by decide) (fun _ => ?_) (fun c38 => absurd (by rw [hq]; decide) c38)
          refine v_aload_n X (dk D_Mi_addArguments 31 rfl) rfl ?_
          refine v_iload_n X (dk D_Mi_addArguments 32 rfl) rfl ?_
          refine v_invV (As := [.int (nI i)]) (st := []) X (k_addArgument l q (i := i) hSv hCv hfb hRv (by omega)) (dk D_Mi_addArguments 33 rfl) G_Mi_270 K_Mi_addArgument V_Mi_addArgument rfl rfl (hSv.lt (by decide)) rfl rfl (Nat.le_of_ble_eq_true rfl) (Nat.le_of_ble_eq_true rfl) (Nat.le_of_ble_eq_true rfl) (Nat.le_of_ble_eq_true rfl) (Nat.le_of_ble_eq_true rfl) ?_
          rintro v w2 ⟨rfl, a1, a2⟩
          show Vv _ _ _ _ _ _ _ _ _ _ _ _ _ _ _ [] (0, 0, w2.2.2)
          refine v_iload_n X (dk D_Mi_addArguments 34 rfl) rfl ?_
          refine v_if_eq (tgt := 100) X (dk D_Mi_addArguments 35 rfl) (by decide) (fun _ => ?_) (fun c72 => absurd (by rw [hq]; decide) c72)
          refine v_iinc (v := nI (i + 1)) (lb := [some (.ref 0), some (.int (nI first)), some (.int (if qd = true then 1 else 0)), some (.int (nI (i + 1)))]) X (dk D_Mi_addArguments 47 rfl) rfl (nI_1 i) (by decide) rfl ?_
          refine v_goto (tgt := 2) X (dk D_Mi_addArguments 48 rfl) (by decide) ?_
          exact ih (i + 1) w2.2.2 _ (by omega) (zv.tr a1 (U := [5, 6]) (fun _ h => h) (fun _ h => h)) a2 (by rw [hH, qtd, if_neg (by rw [hq]; decide)]; simp only [List.append_assoc]) (by omega)
      refine v_iload_n X (dk D_Mi_addArguments 2 rfl) rfl ?_
      refine v_aload_n X (dk D_Mi_addArguments 3 rfl) rfl ?_
      refine v_getF X (dk D_Mi_addArguments 4 rfl) F_Mi_37 rfl rfl (hSu.lt (by decide)) (hSu.2 0 4) ?_
      refine v_invV (As := []) (st := [.int (nI i)]) X (k_arguments l q hSu hCu) (dk D_Mi_addArguments 5 rfl) G_Mi_273 K_Ca_arguments V_Ca_arguments rfl rfl (hSu.lt (by decide)) rfl rfl (Nat.le_of_ble_eq_true rfl) (Nat.le_of_ble_eq_true rfl) (Nat.le_of_ble_eq_true rfl) (Nat.le_of_ble_eq_true rfl) (Nat.le_of_ble_eq_true rfl) ?_
      rintro v ws ⟨rfl, hws⟩
      rw [hws]
      show Vv _ _ _ _ _ _ _ _ _ _ _ _ _ _ _ [.int (nI f.2.1.length), .int (nI i)] (0, 0, u)
      refine v_icmp_ge (tgt := 106) X (dk D_Mi_addArguments 6 rfl) (by decide) (fun c10 => absurd c10 (nI_ge (by omega) (by omega))) (fun _ => ?_)
      refine v_aload_n X (dk D_Mi_addArguments 7 rfl) rfl ?_
      refine v_getF X (dk D_Mi_addArguments 8 rfl) F_Mi_24 rfl rfl (hSu.lt (by decide)) (hSu.2 0 2) ?_
      refine v_getI X (dk D_Mi_addArguments 9 rfl) F_Mi_255 rfl rfl (hSu.lt (by decide)) ?_
      refine v_if_ne (tgt := 106) X (dk D_Mi_addArguments 10 rfl) (by decide) (fun c20 => ?_) (fun c20 => ?_)
      · exact v_vret X hlk hrt (dk D_Mi_addArguments 49 rfl) ⟨rfl, zu, by rw [hG]; exact RE_over _ hRu c20⟩
      · refine v_iload_n X (dk D_Mi_addArguments 11 rfl) rfl ?_
        refine v_iload_n X (dk D_Mi_addArguments 12 rfl) rfl ?_
        refine v_icmp_le (tgt := 37) X (dk D_Mi_addArguments 13 rfl) (by decide) (fun c25 => ?_) (fun c25 => ?_)
        · exact mid u G zu hRu (by rw [hG2, if_neg (fun z => absurd c25 (Int32.not_le.mpr (nI_lt z (by omega))))]; rfl)
        · refine v_aload_n X (dk D_Mi_addArguments 14 rfl) rfl ?_
          refine v_getF X (dk D_Mi_addArguments 15 rfl) F_Mi_24 rfl rfl (hSu.lt (by decide)) (hSu.2 0 2) ?_
          refine v_bipush (v := 44) X (dk D_Mi_addArguments 16 rfl) (by decide) ?_
          refine v_invV (As := [.int 44]) (st := []) X (kr_add l q hRu) (dk D_Mi_addArguments 17 rfl) G_Mi_70 K_By_add V_By_add rfl rfl (hSu.lt (by decide)) rfl rfl (Nat.le_of_ble_eq_true rfl) (Nat.le_of_ble_eq_true rfl) (Nat.le_of_ble_eq_true rfl) (Nat.le_of_ble_eq_true rfl) (Nat.le_of_ble_eq_true rfl) ?_
          rintro v w ⟨rfl, y1, y2⟩
          show Vv _ _ _ _ _ _ _ _ _ _ _ _ _ _ _ [] (0, 0, w.2.2)
          exact mid w.2.2 (G ++ [44]) (zu.tr y1 (U := [5, 6]) (fun _ h => h) (fun _ h => h)) y2 (by rw [hG2, if_pos (Decidable.byContradiction (fun z => c25 (nI_le (by omega) (by omega))))]; simp)
  refine v_iload_n X (dk D_Mi_addArguments 0 rfl) rfl ?_
  refine v_istore_n (lb := [some (.ref 0), some (.int (nI first)), some (.int (if qd = true then 1 else 0)), some (.int (nI first))]) X (dk D_Mi_addArguments 1 rfl) (by decide) rfl ?_
  by_cases hfn : first ≤ f.2.1.length
  · exact loop (f.2.1.length - first) first g F (by omega) (sm.rf _ _) hR (by rw [jnF_jn]) (Nat.le_refl _)
  · exact lead hfn
