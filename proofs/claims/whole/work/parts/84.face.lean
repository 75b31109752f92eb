/-! feed, again, clear, told, size, word -/
def fdC (x : Int64) (k : Nat) : Int32 := ((x.toUInt64 >>> ((nI 8 * nI k).toInt64.toUInt64 &&& Int64.toUInt64 63)).toInt64.toInt32 &&& 255).toInt8.toInt32
def fdL (x : Int64) : Nat → List Int32
  | 0 => []
  | k + 1 => fdL x k ++ [fdC x k]
theorem fdL_len (x : Int64) : ∀ k, (fdL x k).length = k
  | 0 => rfl
  | k + 1 => by rw [fdL, List.length_append, fdL_len x k]; rfl
theorem MI_text {g w : mu_T} {T T2 O : List Int32} (h : MI g T O) (z : sm g w [1, 2]) (hT : RB w 1 2 32768 T2 false) : MI w T2 O := by
  obtain ⟨hS, hDR, hMR, hT0, ⟨o3, hB3⟩, ⟨F0, hR0⟩, ⟨qa, oo, hO⟩, ⟨qb, oc, hQ⟩, ⟨tx, ot, hX⟩, ⟨hx, oh, hH⟩⟩ := h
  exact ⟨hS.sm z, hDR.sm z (by decide), hMR.sm z (by decide), hT, ⟨o3, hB3.sm z (by decide) (by decide)⟩, ⟨F0, hR0.sm z (by decide) (by decide)⟩, ⟨qa, oo, hO.sm z (by decide) (by decide)⟩, ⟨qb, oc, hQ.sm z (by decide) (by decide)⟩, ⟨tx, ot, hX.sm z (by decide) (by decide)⟩, ⟨hx, oh, hH.sm z (by decide) (by decide)⟩⟩
set_option maxHeartbeats 4000000 in
set_option maxRecDepth 100000 in
theorem k_feed (l : Launch) (q : ev_T) {x : Int64} {n : Nat} {T O : List Int32} {g : mu_T} (hM : MI g T O) (hn1 : 1 ≤ n) (hn8 : n ≤ 8) : Ctr l q M_Mi_feed 1 [.ref 0, .long x, .int (nI n)] (0, 0, g) (fun v w => v = some (.int (if T.length + n ≤ 32768 then nI (T.length + n) else -3)) ∧ sm g w.2.2 [1, 2] ∧ MI w.2.2 (if T.length + n ≤ 32768 then T ++ fdL x n else T) O) := by
  have hS := hM.1
  have hT := hM.2.2.2.1
  have htl := hT.2.1
  have hle3 : nI n ≤ 32768 - nI T.length ↔ n + T.length ≤ 32768 := le_sub3 (c := 32768) (by omega) (by decide) (by omega)
  refine Ctr.mk (lb := [some (.ref 0), some (.long x), none, some (.int (nI n)), none]) (by decide +kernel) (Nat.le_of_ble_eq_true rfl) rfl rfl ?_
  intro pp ee ss mm aa bb mt cd X hrt hlk hnm
  have loop : T.length + n ≤ 32768 → ∀ (d k : Nat) (u : mu_T), k + d = n → sm g u [1, 2] → RB u 1 2 32768 (T ++ fdL x k) false → Vv pp l ee (rmT 1 0 0) ss mm aa bb mt cd 5 q (MQ bb (Qw q (fun v w => v = some (.int (if T.length + n ≤ 32768 then nI (T.length + n) else -3)) ∧ sm g w.2.2 [1, 2] ∧ MI w.2.2 (if T.length + n ≤ 32768 then T ++ fdL x n else T) O)) aa ss 0 0 (fun a => q.1 ≤ a)) 33 [some (.ref 0), some (.long x), none, some (.int (nI n)), some (.int (nI k))] [] (0, 0, u) := by
    intro hrm d
    induction d with
    | zero =>
      intro k u hkd zu hTu
      have hSu := hS.sm zu
      refine v_iload X (dk D_Mi_feed 19 rfl) rfl ?_
      refine v_iload_n X (dk D_Mi_feed 20 rfl) rfl ?_
      refine v_icmp_ge (tgt := 64) X (dk D_Mi_feed 21 rfl) (by decide) (fun _ => ?_) (fun c36 => absurd (nI_le (by omega) (by omega)) c36)
      refine v_aload_n X (dk D_Mi_feed 35 rfl) rfl ?_
      refine v_getF X (dk D_Mi_feed 36 rfl) F_Mi_17 rfl rfl (hSu.lt (by decide)) (hSu.2 0 0) ?_
      refine v_getI X (dk D_Mi_feed 37 rfl) F_Mi_66 rfl rfl (hSu.lt (by decide)) ?_
      rw [hTu.2.2.1]
      exact v_iret X hlk hrt (dk D_Mi_feed 38 rfl) ⟨by rw [if_pos hrm, List.length_append, fdL_len, show k = n by omega], zu, by rw [if_pos hrm, show n = k by omega]; exact MI_text hM zu hTu⟩
    | succ d ih =>
      intro k u hkd zu hTu
      have hSu := hS.sm zu
      refine v_iload X (dk D_Mi_feed 19 rfl) rfl ?_
      refine v_iload_n X (dk D_Mi_feed 20 rfl) rfl ?_
      refine v_icmp_ge (tgt := 64) X (dk D_Mi_feed 21 rfl) (by decide) (fun c36 => absurd c36 (nI_ge (by omega) (by omega))) (fun _ => ?_)
      refine v_aload_n X (dk D_Mi_feed 22 rfl) rfl ?_
      refine v_getF X (dk D_Mi_feed 23 rfl) F_Mi_17 rfl rfl (hSu.lt (by decide)) (hSu.2 0 0) ?_
      refine v_lload_n X (dk D_Mi_feed 24 rfl) rfl ?_
      refine v_bipush (v := nI 8) X (dk D_Mi_feed 25 rfl) (by decide) ?_
      refine v_iload X (dk D_Mi_feed 26 rfl) rfl ?_
      refine v_imul X (dk D_Mi_feed 27 rfl) ?_
      refine v_lushr X (dk D_Mi_feed 28 rfl) rfl ?_
      refine v_l2i X (dk D_Mi_feed 29 rfl) rfl ?_
      refine v_sipush (v := 255) X (dk D_Mi_feed 30 rfl) (by decide) ?_
      refine v_iand X (dk D_Mi_feed 31 rfl) ?_
      refine v_invV (As := [.int _]) (st := []) X (k_add l q hTu) (dk D_Mi_feed 32 rfl) G_Mi_70 K_By_add V_By_add rfl rfl (hSu.lt (by decide)) rfl rfl (Nat.le_of_ble_eq_true rfl) (Nat.le_of_ble_eq_true rfl) (Nat.le_of_ble_eq_true rfl) (Nat.le_of_ble_eq_true rfl) (Nat.le_of_ble_eq_true rfl) ?_
      rintro v w ⟨rfl, y1, y2⟩
      rw [ad1, if_neg (by rw [List.length_append, fdL_len]; exact fun z => z.elim (fun z => by cases z) (fun z => by omega)), List.append_assoc] at y2
      show Vv _ _ _ _ _ _ _ _ _ _ _ _ _ _ _ [] (0, 0, w.2.2)
      refine v_iinc (v := nI (k + 1)) (lb := [some (.ref 0), some (.long x), none, some (.int (nI n)), some (.int (nI (k + 1)))]) X (dk D_Mi_feed 33 rfl) rfl (nI_1 k) (by decide) rfl ?_
      refine v_goto (tgt := 33) X (dk D_Mi_feed 34 rfl) (by decide) ?_
      exact ih (k + 1) w.2.2 (by omega) (zu.tr y1 (U := [1, 2]) (fun _ h => h) (fun _ h => h)) y2
  refine v_iload_n X (dk D_Mi_feed 0 rfl) rfl ?_
  refine v_iconst (v := 1) X (dk D_Mi_feed 1 rfl) (by decide) ?_
  refine v_icmp_lt (tgt := 11) X (dk D_Mi_feed 2 rfl) (by decide) (fun c2 => absurd c2 (nI_nlt (a := n) (b := 1) (by omega) (by omega))) (fun _ => ?_)
  refine v_iload_n X (dk D_Mi_feed 3 rfl) rfl ?_
  refine v_bipush (v := 8) X (dk D_Mi_feed 4 rfl) (by decide) ?_
  refine v_icmp_le (tgt := 13) X (dk D_Mi_feed 5 rfl) (by decide) (fun _ => ?_) (fun c8 => absurd (nI_le (b := 8) (by omega) (by decide)) c8)
  refine v_iload_n X (dk D_Mi_feed 8 rfl) rfl ?_
  refine v_ldc X (dk D_Mi_feed 9 rfl) C_Mi_13 ?_
  refine v_aload_n X (dk D_Mi_feed 10 rfl) rfl ?_
  refine v_getF X (dk D_Mi_feed 11 rfl) F_Mi_17 rfl rfl (hS.lt (by decide)) (hS.2 0 0) ?_
  refine v_getI X (dk D_Mi_feed 12 rfl) F_Mi_66 rfl rfl (hS.lt (by decide)) ?_
  rw [hT.2.2.1]
  refine v_isub X (dk D_Mi_feed 13 rfl) ?_
  refine v_icmp_le (tgt := 30) X (dk D_Mi_feed 14 rfl) (by decide) (fun c24 => ?_) (fun c24 => ?_)
  · have hrm : T.length + n ≤ 32768 := by rw [hle3] at c24; omega
    refine v_iconst (v := nI 0) X (dk D_Mi_feed 17 rfl) (by decide) ?_
    refine v_istore (lb := [some (.ref 0), some (.long x), none, some (.int (nI n)), some (.int (nI 0))]) X (dk D_Mi_feed 18 rfl) (by decide) rfl ?_
    exact loop hrm n 0 g (by omega) (sm.rf _ _) (by rw [fdL, List.append_nil]; exact hT)
  · have hrm : ¬ T.length + n ≤ 32768 := fun z => c24 (by rw [hle3]; omega)
    refine v_bipush (v := -3) X (dk D_Mi_feed 15 rfl) (by decide) ?_
    exact v_iret X hlk hrt (dk D_Mi_feed 16 rfl) ⟨by rw [if_neg hrm], sm.rf _ _, by rw [if_neg hrm]; exact hM⟩
set_option maxHeartbeats 4000000 in
set_option maxRecDepth 100000 in
theorem k_feed0 (l : Launch) (q : ev_T) {x : Int64} {y : Int32} {g : mu_T} (hy : ¬ (¬ y < 1 ∧ y ≤ 8)) : Ctr l q M_Mi_feed 0 [.ref 0, .long x, .int y] (0, 0, g) (fun v w => v = some (.int (-1)) ∧ w.2.2 = g) := by

  refine Ctr.mk (lb := [some (.ref 0), some (.long x), none, some (.int y), none]) (by decide +kernel) (Nat.le_of_ble_eq_true rfl) rfl rfl ?_
  intro pp ee ss mm aa bb mt cd X hrt hlk hnm
  refine v_iload_n X (dk D_Mi_feed 0 rfl) rfl ?_
  refine v_iconst (v := 1) X (dk D_Mi_feed 1 rfl) (by decide) ?_
  refine v_icmp_lt (tgt := 11) X (dk D_Mi_feed 2 rfl) (by decide) (fun c2 => ?_) (fun c2 => ?_)
  · refine v_iconst (v := -1) X (dk D_Mi_feed 6 rfl) (by decide) ?_
    exact v_iret X hlk hrt (dk D_Mi_feed 7 rfl) ⟨rfl, rfl⟩
  · refine v_iload_n X (dk D_Mi_feed 3 rfl) rfl ?_
    refine v_bipush (v := 8) X (dk D_Mi_feed 4 rfl) (by decide) ?_
    refine v_icmp_le (tgt := 13) X (dk D_Mi_feed 5 rfl) (by decide) (fun c8 => ?_) (fun c8 => ?_)
    · exact absurd ⟨c2, c8⟩ hy
    · refine v_iconst (v := -1) X (dk D_Mi_feed 6 rfl) (by decide) ?_
      exact v_iret X hlk hrt (dk D_Mi_feed 7 rfl) ⟨rfl, rfl⟩
set_option maxHeartbeats 4000000 in
set_option maxRecDepth 100000 in
theorem k_clear (l : Launch) (q : ev_T) {T O : List Int32} {g : mu_T} (hM : MI g T O) : Ctr l q M_Mi_clear 1 [.ref 0] (0, 0, g) (fun v w => v = some (.int (nI T.length)) ∧ sm g w.2.2 [1, 2] ∧ MI w.2.2 [] O) := by
  have hS := hM.1
  have hT := hM.2.2.2.1
  refine Ctr.mk (lb := [some (.ref 0), none]) (by decide +kernel) (Nat.le_of_ble_eq_true rfl) rfl rfl ?_
  intro pp ee ss mm aa bb mt cd X hrt hlk hnm
  refine v_aload_n X (dk D_Mi_clear 0 rfl) rfl ?_
  refine v_getF X (dk D_Mi_clear 1 rfl) F_Mi_17 rfl rfl (hS.lt (by decide)) (hS.2 0 0) ?_
  refine v_getI X (dk D_Mi_clear 2 rfl) F_Mi_66 rfl rfl (hS.lt (by decide)) ?_
  rw [hT.2.2.1]
  refine v_istore_n (lb := [some (.ref 0), some (.int (nI T.length))]) X (dk D_Mi_clear 3 rfl) (by decide) rfl ?_
  refine v_aload_n X (dk D_Mi_clear 4 rfl) rfl ?_
  refine v_getF X (dk D_Mi_clear 5 rfl) F_Mi_17 rfl rfl (hS.lt (by decide)) (hS.2 0 0) ?_
  refine v_iconst (v := 0) X (dk D_Mi_clear 6 rfl) (by decide) ?_
  refine v_invV (As := [.int 0]) (st := []) X (k_cut0 l q hT) (dk D_Mi_clear 7 rfl) G_Mi_77 K_By_cut V_By_cut rfl rfl (hS.lt (by decide)) rfl rfl (Nat.le_of_ble_eq_true rfl) (Nat.le_of_ble_eq_true rfl) (Nat.le_of_ble_eq_true rfl) (Nat.le_of_ble_eq_true rfl) (Nat.le_of_ble_eq_true rfl) ?_
  rintro v w ⟨rfl, y1, y2⟩
  show Vv _ _ _ _ _ _ _ _ _ _ _ _ _ _ _ [] (0, 0, w.2.2)
  refine v_iload_n X (dk D_Mi_clear 8 rfl) rfl ?_
  exact v_iret X hlk hrt (dk D_Mi_clear 9 rfl) ⟨rfl, y1.mono (by simp), MI_text hM (y1.mono (by simp)) y2⟩
set_option maxHeartbeats 4000000 in
set_option maxRecDepth 100000 in
theorem k_size (l : Launch) (q : ev_T) {T O : List Int32} {g : mu_T} (hM : MI g T O) : Ctr l q M_Mi_size 0 [.ref 0] (0, 0, g) (fun v w => v = some (.int (nI O.length)) ∧ w.2.2 = g) := by
  have hS := hM.1
  obtain ⟨o3, hB⟩ := hM.2.2.2.2.1
  refine Ctr.mk (lb := [some (.ref 0)]) (by decide +kernel) (Nat.le_of_ble_eq_true rfl) rfl rfl ?_
  intro pp ee ss mm aa bb mt cd X hrt hlk hnm
  refine v_aload_n X (dk D_Mi_size 0 rfl) rfl ?_
  refine v_getF X (dk D_Mi_size 1 rfl) F_Mi_21 rfl rfl (hS.lt (by decide)) (hS.2 0 1) ?_
  refine v_getI X (dk D_Mi_size 2 rfl) F_Mi_66 rfl rfl (hS.lt (by decide)) ?_
  rw [hB.2.2.1]
  exact v_iret X hlk hrt (dk D_Mi_size 3 rfl) ⟨rfl, rfl⟩
set_option maxHeartbeats 4000000 in
set_option maxRecDepth 100000 in
theorem k_told (l : Launch) (q : ev_T) {x : Int32} {g : mu_T} (hS : Shp g) : Ctr l q M_Mi_told 0 [.ref 0, .int x] (0, 0, g) (fun v w => v = some (.int (if x = 0 then gI g 0 9 else if x = 1 then gI g 7 5 else if x = 2 then gI g 25 1 else if x = 3 then gI g 25 2 else -1)) ∧ w.2.2 = g) := by

  refine Ctr.mk (lb := [some (.ref 0), some (.int x)]) (by decide +kernel) (Nat.le_of_ble_eq_true rfl) rfl rfl ?_
  intro pp ee ss mm aa bb mt cd X hrt hlk hnm
  by_cases hr : x.toInt < 0 ∨ 3 < x.toInt
  · refine v_iload_n X (dk D_Mi_told 0 rfl) rfl ?_
    refine v_tableOut (tgt := 61) X (dk D_Mi_told 1 rfl) hr (by decide) ?_
    refine v_iconst (v := -1) X (dk D_Mi_told 17 rfl) (by decide) ?_
    exact v_iret X hlk hrt (dk D_Mi_told 18 rfl) ⟨by rw [if_neg (show ¬ x = 0 from fun z => by rw [z] at hr; exact absurd hr (by decide)), if_neg (show ¬ x = 1 from fun z => by rw [z] at hr; exact absurd hr (by decide)), if_neg (show ¬ x = 2 from fun z => by rw [z] at hr; exact absurd hr (by decide)), if_neg (show ¬ x = 3 from fun z => by rw [z] at hr; exact absurd hr (by decide))], rfl⟩
  · have hc : x = 0 ∨ x = 1 ∨ x = 2 ∨ x = 3 := by
      have e : ∀ k : Int32, x.toInt = k.toInt → x = k := fun k h => Int32.toInt_inj.mp h
      have h0 : (0 : Int32).toInt = 0 := by decide
      have h1 : (1 : Int32).toInt = 1 := by decide
      have h2 : (2 : Int32).toInt = 2 := by decide
      have h3 : (3 : Int32).toInt = 3 := by decide
      rcases (show x.toInt = 0 ∨ x.toInt = 1 ∨ x.toInt = 2 ∨ x.toInt = 3 by omega) with h | h | h | h
      · exact Or.inl (e 0 (by rw [h, h0]))
      · exact Or.inr (Or.inl (e 1 (by rw [h, h1])))
      · exact Or.inr (Or.inr (Or.inl (e 2 (by rw [h, h2]))))
      · exact Or.inr (Or.inr (Or.inr (e 3 (by rw [h, h3]))))
    rcases hc with rfl | rfl | rfl | rfl
    · refine v_iload_n X (dk D_Mi_told 0 rfl) rfl ?_
      refine v_tableIn (tgt := 32) X (dk D_Mi_told 1 rfl) (by decide) (by decide) rfl (by decide) ?_
      refine v_aload_n X (dk D_Mi_told 2 rfl) rfl ?_
      refine v_getI X (dk D_Mi_told 3 rfl) F_Mi_107 rfl rfl (hS.lt (by decide)) ?_
      exact v_iret X hlk hrt (dk D_Mi_told 4 rfl) ⟨rfl, rfl⟩
    · refine v_iload_n X (dk D_Mi_told 0 rfl) rfl ?_
      refine v_tableIn (tgt := 37) X (dk D_Mi_told 1 rfl) (by decide) (by decide) rfl (by decide) ?_
      refine v_aload_n X (dk D_Mi_told 5 rfl) rfl ?_
      refine v_getF X (dk D_Mi_told 6 rfl) F_Mi_30 rfl rfl (hS.lt (by decide)) (hS.2 0 3) ?_
      refine v_getI X (dk D_Mi_told 7 rfl) F_Mi_110 rfl rfl (hS.lt (by decide)) ?_
      exact v_iret X hlk hrt (dk D_Mi_told 8 rfl) ⟨rfl, rfl⟩
    · refine v_iload_n X (dk D_Mi_told 0 rfl) rfl ?_
      refine v_tableIn (tgt := 45) X (dk D_Mi_told 1 rfl) (by decide) (by decide) rfl (by decide) ?_
      refine v_aload_n X (dk D_Mi_told 9 rfl) rfl ?_
      refine v_getF X (dk D_Mi_told 10 rfl) F_Mi_44 rfl rfl (hS.lt (by decide)) (hS.2 0 5) ?_
      refine v_getI X (dk D_Mi_told 11 rfl) F_Mi_113 rfl rfl (hS.lt (by decide)) ?_
      exact v_iret X hlk hrt (dk D_Mi_told 12 rfl) ⟨rfl, rfl⟩
    · refine v_iload_n X (dk D_Mi_told 0 rfl) rfl ?_
      refine v_tableIn (tgt := 53) X (dk D_Mi_told 1 rfl) (by decide) (by decide) rfl (by decide) ?_
      refine v_aload_n X (dk D_Mi_told 13 rfl) rfl ?_
      refine v_getF X (dk D_Mi_told 14 rfl) F_Mi_44 rfl rfl (hS.lt (by decide)) (hS.2 0 5) ?_
      refine v_getI X (dk D_Mi_told 15 rfl) F_Mi_116 rfl rfl (hS.lt (by decide)) ?_
      exact v_iret X hlk hrt (dk D_Mi_told 16 rfl) ⟨rfl, rfl⟩
set_option maxHeartbeats 4000000 in
set_option maxRecDepth 100000 in
theorem k_again (l : Launch) (q : ev_T) {fm n : Nat} {T O : List Int32} {g : mu_T} (hM : MI g T O) (hn1 : 1 ≤ n) (hfn : fm + n ≤ T.length) : Ctr l q M_Mi_again 2 [.ref 0, .int (nI fm), .int (nI n)] (0, 0, g) (fun v w => v = some (.int (if T.length + n ≤ 32768 then nI (T.length + n) else -3)) ∧ sm g w.2.2 [1, 2] ∧ MI w.2.2 (if T.length + n ≤ 32768 then T ++ (T.drop fm).take n else T) O) := by
  have hS := hM.1
  have hT := hM.2.2.2.1
  have htl := hT.2.1
  have hle3 : nI n ≤ 32768 - nI T.length ↔ n + T.length ≤ 32768 := le_sub3 (c := 32768) (by omega) (by decide) (by omega)
  refine Ctr.mk (lb := [some (.ref 0), some (.int (nI fm)), some (.int (nI n))]) (by decide +kernel) (Nat.le_of_ble_eq_true rfl) rfl rfl ?_
  intro pp ee ss mm aa bb mt cd X hrt hlk hnm
  refine v_iload_n X (dk D_Mi_again 0 rfl) rfl ?_
  refine v_iconst (v := 1) X (dk D_Mi_again 1 rfl) (by decide) ?_
  refine v_icmp_lt (tgt := 33) X (dk D_Mi_again 2 rfl) (by decide) (fun c2 => absurd c2 (nI_nlt (a := n) (b := 1) (by omega) (by omega))) (fun _ => ?_)
  refine v_iload_n X (dk D_Mi_again 3 rfl) rfl ?_
  refine v_if_lt (tgt := 33) X (dk D_Mi_again 4 rfl) (by decide) (fun c6 => absurd c6 (nI_pos (by omega))) (fun _ => ?_)
  refine v_iload_n X (dk D_Mi_again 5 rfl) rfl ?_
  refine v_aload_n X (dk D_Mi_again 6 rfl) rfl ?_
  refine v_getF X (dk D_Mi_again 7 rfl) F_Mi_17 rfl rfl (hS.lt (by decide)) (hS.2 0 0) ?_
  refine v_getI X (dk D_Mi_again 8 rfl) F_Mi_66 rfl rfl (hS.lt (by decide)) ?_
  refine v_icmp_gt (tgt := 33) X (dk D_Mi_again 9 rfl) (by decide) (fun c17 => absurd c17 (by rw [hT.2.2.1]; exact nI_nlt (by omega) (by omega))) (fun _ => ?_)
  refine v_iload_n X (dk D_Mi_again 10 rfl) rfl ?_
  refine v_aload_n X (dk D_Mi_again 11 rfl) rfl ?_
  refine v_getF X (dk D_Mi_again 12 rfl) F_Mi_17 rfl rfl (hS.lt (by decide)) (hS.2 0 0) ?_
  refine v_getI X (dk D_Mi_again 13 rfl) F_Mi_66 rfl rfl (hS.lt (by decide)) ?_
  refine v_iload_n X (dk D_Mi_again 14 rfl) rfl ?_
  refine v_isub X (dk D_Mi_again 15 rfl) ?_
  refine v_icmp_le (tgt := 35) X (dk D_Mi_again 16 rfl) (by decide) (fun _ => ?_) (fun c30 => absurd (by rw [hT.2.2.1, pk_sub (by omega)]; exact nI_le (by omega) (by omega)) c30)
  refine v_iload_n X (dk D_Mi_again 19 rfl) rfl ?_
  refine v_ldc X (dk D_Mi_again 20 rfl) C_Mi_13 ?_
  refine v_aload_n X (dk D_Mi_again 21 rfl) rfl ?_
  refine v_getF X (dk D_Mi_again 22 rfl) F_Mi_17 rfl rfl (hS.lt (by decide)) (hS.2 0 0) ?_
  refine v_getI X (dk D_Mi_again 23 rfl) F_Mi_66 rfl rfl (hS.lt (by decide)) ?_
  rw [hT.2.2.1]
  refine v_isub X (dk D_Mi_again 24 rfl) ?_
  refine v_icmp_le (tgt := 52) X (dk D_Mi_again 25 rfl) (by decide) (fun c46 => ?_) (fun c46 => ?_)
  · have hrm : T.length + n ≤ 32768 := by rw [hle3] at c46; omega
    refine v_aload_n X (dk D_Mi_again 28 rfl) rfl ?_
    refine v_getF X (dk D_Mi_again 29 rfl) F_Mi_17 rfl rfl (hS.lt (by decide)) (hS.2 0 0) ?_
    refine v_aload_n X (dk D_Mi_again 30 rfl) rfl ?_
    refine v_getF X (dk D_Mi_again 31 rfl) F_Mi_17 rfl rfl (hS.lt (by decide)) (hS.2 0 0) ?_
    refine v_iload_n X (dk D_Mi_again 32 rfl) rfl ?_
    refine v_iload_n X (dk D_Mi_again 33 rfl) rfl ?_
    refine v_invV (As := [.ref 1, .int (nI fm), .int (nI n)]) (st := []) X (k_addPart l q (f := fm) (k := n) hT hT hfn (by decide) (by decide)) (dk D_Mi_again 34 rfl) G_Mi_73 K_By_addPart V_By_addPart rfl rfl (hS.lt (by decide)) rfl rfl (Nat.le_of_ble_eq_true rfl) (Nat.le_of_ble_eq_true rfl) (Nat.le_of_ble_eq_true rfl) (Nat.le_of_ble_eq_true rfl) (Nat.le_of_ble_eq_true rfl) ?_
    rintro v w ⟨rfl, y1, y2⟩
    rw [if_neg (fun z => z.elim (fun z => by cases z) (fun z => by omega)), show (false || decide (32768 < T.length + n)) = false from by rw [decide_eq_false (by omega)]; rfl] at y2
    have S1 := hS.sm y1
    show Vv _ _ _ _ _ _ _ _ _ _ _ _ _ _ _ [] (0, 0, w.2.2)
    refine v_aload_n X (dk D_Mi_again 35 rfl) rfl ?_
    refine v_getF X (dk D_Mi_again 36 rfl) F_Mi_17 rfl rfl (S1.lt (by decide)) (S1.2 0 0) ?_
    refine v_getI X (dk D_Mi_again 37 rfl) F_Mi_66 rfl rfl (S1.lt (by decide)) ?_
    rw [y2.2.2.1]
    exact v_iret X hlk hrt (dk D_Mi_again 38 rfl) ⟨by rw [if_pos hrm, List.length_append, List.length_take, List.length_drop, Nat.min_eq_left (by omega)], y1, by rw [if_pos hrm]; exact MI_text hM y1 y2⟩
  · have hrm : ¬ T.length + n ≤ 32768 := fun z => c46 (by rw [hle3]; omega)
    refine v_bipush (v := -3) X (dk D_Mi_again 26 rfl) (by decide) ?_
    exact v_iret X hlk hrt (dk D_Mi_again 27 rfl) ⟨by rw [if_neg hrm], sm.rf _ _, by rw [if_neg hrm]; exact hM⟩
set_option maxHeartbeats 4000000 in
set_option maxRecDepth 100000 in
theorem k_again0 (l : Launch) (q : ev_T) {x y : Int32} {T O : List Int32} {g : mu_T} (hM : MI g T O) (hy : ¬ (¬ y < 1 ∧ ¬ x < 0 ∧ ¬ nI T.length < y ∧ x ≤ nI T.length - y)) : Ctr l q M_Mi_again 0 [.ref 0, .int x, .int y] (0, 0, g) (fun v w => v = some (.int (-1)) ∧ w.2.2 = g) := by
  have hS := hM.1
  have hT := hM.2.2.2.1
  refine Ctr.mk (lb := [some (.ref 0), some (.int x), some (.int y)]) (by decide +kernel) (Nat.le_of_ble_eq_true rfl) rfl rfl ?_
  intro pp ee ss mm aa bb mt cd X hrt hlk hnm
  refine v_iload_n X (dk D_Mi_again 0 rfl) rfl ?_
  refine v_iconst (v := 1) X (dk D_Mi_again 1 rfl) (by decide) ?_
  refine v_icmp_lt (tgt := 33) X (dk D_Mi_again 2 rfl) (by decide) (fun c2 => ?_) (fun c2 => ?_)
  · refine v_iconst (v := -1) X (dk D_Mi_again 17 rfl) (by decide) ?_
    exact v_iret X hlk hrt (dk D_Mi_again 18 rfl) ⟨rfl, rfl⟩
  · refine v_iload_n X (dk D_Mi_again 3 rfl) rfl ?_
    refine v_if_lt (tgt := 33) X (dk D_Mi_again 4 rfl) (by decide) (fun c6 => ?_) (fun c6 => ?_)
    · refine v_iconst (v := -1) X (dk D_Mi_again 17 rfl) (by decide) ?_
      exact v_iret X hlk hrt (dk D_Mi_again 18 rfl) ⟨rfl, rfl⟩
    · refine v_iload_n X (dk D_Mi_again 5 rfl) rfl ?_
      refine v_aload_n X (dk D_Mi_again 6 rfl) rfl ?_
      refine v_getF X (dk D_Mi_again 7 rfl) F_Mi_17 rfl rfl (hS.lt (by decide)) (hS.2 0 0) ?_
      refine v_getI X (dk D_Mi_again 8 rfl) F_Mi_66 rfl rfl (hS.lt (by decide)) ?_
      rw [hT.2.2.1]
      refine v_icmp_gt (tgt := 33) X (dk D_Mi_again 9 rfl) (by decide) (fun c17 => ?_) (fun c17 => ?_)
      · refine v_iconst (v := -1) X (dk D_Mi_again 17 rfl) (by decide) ?_
        exact v_iret X hlk hrt (dk D_Mi_again 18 rfl) ⟨rfl, rfl⟩
      · refine v_iload_n X (dk D_Mi_again 10 rfl) rfl ?_
        refine v_aload_n X (dk D_Mi_again 11 rfl) rfl ?_
        refine v_getF X (dk D_Mi_again 12 rfl) F_Mi_17 rfl rfl (hS.lt (by decide)) (hS.2 0 0) ?_
        refine v_getI X (dk D_Mi_again 13 rfl) F_Mi_66 rfl rfl (hS.lt (by decide)) ?_
        rw [hT.2.2.1]
        refine v_iload_n X (dk D_Mi_again 14 rfl) rfl ?_
        refine v_isub X (dk D_Mi_again 15 rfl) ?_
        refine v_icmp_le (tgt := 35) X (dk D_Mi_again 16 rfl) (by decide) (fun c30 => ?_) (fun c30 => ?_)
        · exact absurd ⟨c2, c6, c17, c30⟩ hy
        · refine v_iconst (v := -1) X (dk D_Mi_again 17 rfl) (by decide) ?_
          exact v_iret X hlk hrt (dk D_Mi_again 18 rfl) ⟨rfl, rfl⟩
def wdC (O : List Int32) (j : Nat) : Nat → Int64
  | 0 => 0
  | k + 1 => if atL O (nI (8 * j + k)) ≤ 0 then wdC O j k else wdC O j k ||| ((atL O (nI (8 * j + k))).toInt64 <<< ((nI 8 * nI k).toInt64 &&& 63))
set_option maxHeartbeats 4000000 in
set_option maxRecDepth 100000 in
theorem k_word (l : Launch) (q : ev_T) {j : Nat} {T O : List Int32} {g : mu_T} (hM : MI g T O) (hj : j ≤ 4096) : Ctr l q M_Mi_word 1 [.ref 0, .int (nI j)] (0, 0, g) (fun v w => v = some (.long (wdC O j 8)) ∧ w.2.2 = g) := by
  have hS := hM.1
  obtain ⟨o3, hB⟩ := hM.2.2.2.2.1
  refine Ctr.mk (lb := [some (.ref 0), some (.int (nI j)), none, none, none, none]) (by decide +kernel) (Nat.le_of_ble_eq_true rfl) rfl rfl ?_
  intro pp ee ss mm aa bb mt cd X hrt hlk hnm
  have loop : ∀ (d k : Nat), k + d = 8 → Vv pp l ee (rmT 1 0 0) ss mm aa bb mt cd 6 q (MQ bb (Qw q (fun v w => v = some (.long (wdC O j 8)) ∧ w.2.2 = g)) aa ss 0 0 (fun a => q.1 ≤ a)) 18 [some (.ref 0), some (.int (nI j)), some (.long (wdC O j k)), none, some (.int (nI k)), none] [] (0, 0, g) := by
    intro d
    induction d with
    | zero =>
      intro k hkd
      refine v_iload X (dk D_Mi_word 11 rfl) rfl ?_
      refine v_bipush (v := 8) X (dk D_Mi_word 12 rfl) (by decide) ?_
      refine v_icmp_ge (tgt := 64) X (dk D_Mi_word 13 rfl) (by decide) (fun _ => ?_) (fun c22 => absurd (nI_le (a := 8) (by omega) (by omega)) c22)
      refine v_lload_n X (dk D_Mi_word 36 rfl) rfl ?_
      exact v_lret X hlk hrt (dk D_Mi_word 37 rfl) ⟨by rw [show k = 8 by omega], rfl⟩
    | succ d ih =>
      intro k hkd
      refine v_iload X (dk D_Mi_word 11 rfl) rfl ?_
      refine v_bipush (v := 8) X (dk D_Mi_word 12 rfl) (by decide) ?_
      refine v_icmp_ge (tgt := 64) X (dk D_Mi_word 13 rfl) (by decide) (fun c22 => absurd c22 (nI_ge (b := 8) (by omega) (by omega))) (fun _ => ?_)
      refine v_aload_n X (dk D_Mi_word 14 rfl) rfl ?_
      refine v_getF X (dk D_Mi_word 15 rfl) F_Mi_21 rfl rfl (hS.lt (by decide)) (hS.2 0 1) ?_
      refine v_bipush (v := nI 8) X (dk D_Mi_word 16 rfl) (by decide) ?_
      refine v_iload_n X (dk D_Mi_word 17 rfl) rfl ?_
      refine v_imul X (dk D_Mi_word 18 rfl) ?_
      refine v_iload X (dk D_Mi_word 19 rfl) rfl ?_
      refine v_iadd X (dk D_Mi_word 20 rfl) ?_
      rw [show nI 8 * nI j = nI (8 * j) from (Int32.ofNat_mul 8 j).symm, nI_add]
      refine v_invV (As := [.int (nI (8 * j + k))]) (st := []) X (k_at l q hB) (dk D_Mi_word 21 rfl) G_Mi_119 K_By_at V_By_at rfl rfl (hS.lt (by decide)) rfl rfl (Nat.le_of_ble_eq_true rfl) (Nat.le_of_ble_eq_true rfl) (Nat.le_of_ble_eq_true rfl) (Nat.le_of_ble_eq_true rfl) (Nat.le_of_ble_eq_true rfl) ?_
      rintro v ws ⟨rfl, hws⟩
      rw [hws]
      show Vv _ _ _ _ _ _ _ _ _ _ _ _ _ _ _ [.int (atL O (nI (8 * j + k)))] (0, 0, g)
      refine v_istore (lb := [some (.ref 0), some (.int (nI j)), some (.long (wdC O j k)), none, some (.int (nI k)), some (.int (atL O (nI (8 * j + k))))]) X (dk D_Mi_word 22 rfl) (by decide) rfl ?_
      refine v_iload X (dk D_Mi_word 23 rfl) rfl ?_
      refine v_if_le (tgt := 58) X (dk D_Mi_word 24 rfl) (by decide) (fun c43 => ?_) (fun c43 => ?_)
      · refine v_iinc (v := nI (k + 1)) (lb := [some (.ref 0), some (.int (nI j)), some (.long (wdC O j k)), none, some (.int (nI (k + 1))), some (.int (atL O (nI (8 * j + k))))]) X (dk D_Mi_word 34 rfl) rfl (nI_1 k) (by decide) rfl ?_
        refine v_goto (tgt := 18) X (dk D_Mi_word 35 rfl) (by decide) ?_
        rw [show wdC O j k = wdC O j (k + 1) from (show wdC O j (k + 1) = _ from (if_pos c43)).symm]
        exact v_weak (la := [some (.ref 0), some (.int (nI j)), some (.long (wdC O j (k + 1))), none, some (.int (nI (k + 1))), none]) ⟨rfl, rfl, rfl, rfl, trivial⟩ (ih (k + 1) (by omega))
      · refine v_lload_n X (dk D_Mi_word 25 rfl) rfl ?_
        refine v_iload X (dk D_Mi_word 26 rfl) rfl ?_
        refine v_i2l X (dk D_Mi_word 27 rfl) rfl ?_
        refine v_bipush (v := nI 8) X (dk D_Mi_word 28 rfl) (by decide) ?_
        refine v_iload X (dk D_Mi_word 29 rfl) rfl ?_
        refine v_imul X (dk D_Mi_word 30 rfl) ?_
        refine v_lshl X (dk D_Mi_word 31 rfl) rfl ?_
        refine v_lor X (dk D_Mi_word 32 rfl) ?_
        refine v_lstore_n (lb := [some (.ref 0), some (.int (nI j)), some (.long (wdC O j k ||| ((atL O (nI (8 * j + k))).toInt64 <<< ((nI 8 * nI k).toInt64 &&& 63)))), none, some (.int (nI k)), some (.int (atL O (nI (8 * j + k))))]) X (dk D_Mi_word 33 rfl) (by decide) rfl ?_
        refine v_iinc (v := nI (k + 1)) (lb := [some (.ref 0), some (.int (nI j)), some (.long (wdC O j k ||| ((atL O (nI (8 * j + k))).toInt64 <<< ((nI 8 * nI k).toInt64 &&& 63)))), none, some (.int (nI (k + 1))), some (.int (atL O (nI (8 * j + k))))]) X (dk D_Mi_word 34 rfl) rfl (nI_1 k) (by decide) rfl ?_
        refine v_goto (tgt := 18) X (dk D_Mi_word 35 rfl) (by decide) ?_
        rw [show wdC O j k ||| ((atL O (nI (8 * j + k))).toInt64 <<< ((nI 8 * nI k).toInt64 &&& 63)) = wdC O j (k + 1) from (show wdC O j (k + 1) = _ from (if_neg c43)).symm]
        exact v_weak (la := [some (.ref 0), some (.int (nI j)), some (.long (wdC O j (k + 1))), none, some (.int (nI (k + 1))), none]) ⟨rfl, rfl, rfl, rfl, trivial⟩ (ih (k + 1) (by omega))
  refine v_iload_n X (dk D_Mi_word 0 rfl) rfl ?_
  refine v_if_lt (tgt := 11) X (dk D_Mi_word 1 rfl) (by decide) (fun c1 => absurd c1 (nI_pos (by omega))) (fun _ => ?_)
  refine v_iload_n X (dk D_Mi_word 2 rfl) rfl ?_
  refine v_sipush (v := 4096) X (dk D_Mi_word 3 rfl) (by decide) ?_
  refine v_icmp_le (tgt := 13) X (dk D_Mi_word 4 rfl) (by decide) (fun _ => ?_) (fun c8 => absurd (nI_le (b := 4096) (by omega) (by decide)) c8)
  refine v_lconst (v := 0) X (dk D_Mi_word 7 rfl) (by decide) ?_
  refine v_lstore_n (lb := [some (.ref 0), some (.int (nI j)), some (.long 0), none, none, none]) X (dk D_Mi_word 8 rfl) (by decide) rfl ?_
  refine v_iconst (v := nI 0) X (dk D_Mi_word 9 rfl) (by decide) ?_
  refine v_istore (lb := [some (.ref 0), some (.int (nI j)), some (.long 0), none, some (.int (nI 0)), none]) X (dk D_Mi_word 10 rfl) (by decide) rfl ?_
  exact v_weak (la := [some (.ref 0), some (.int (nI j)), some (.long (wdC O j 0)), none, some (.int (nI 0)), none]) ⟨rfl, rfl, rfl, rfl, trivial⟩ (loop 8 0 (by omega))
set_option maxHeartbeats 4000000 in
set_option maxRecDepth 100000 in
theorem k_word0 (l : Launch) (q : ev_T) {x : Int32} {g : mu_T} (hx : ¬ (¬ x < 0 ∧ x ≤ 4096)) : Ctr l q M_Mi_word 0 [.ref 0, .int x] (0, 0, g) (fun v w => v = some (.long 0) ∧ w.2.2 = g) := by

  refine Ctr.mk (lb := [some (.ref 0), some (.int x), none, none, none, none]) (by decide +kernel) (Nat.le_of_ble_eq_true rfl) rfl rfl ?_
  intro pp ee ss mm aa bb mt cd X hrt hlk hnm
  refine v_iload_n X (dk D_Mi_word 0 rfl) rfl ?_
  refine v_if_lt (tgt := 11) X (dk D_Mi_word 1 rfl) (by decide) (fun c1 => ?_) (fun c1 => ?_)
  · refine v_lconst (v := 0) X (dk D_Mi_word 5 rfl) (by decide) ?_
    exact v_lret X hlk hrt (dk D_Mi_word 6 rfl) ⟨rfl, rfl⟩
  · refine v_iload_n X (dk D_Mi_word 2 rfl) rfl ?_
    refine v_sipush (v := 4096) X (dk D_Mi_word 3 rfl) (by decide) ?_
    refine v_icmp_le (tgt := 13) X (dk D_Mi_word 4 rfl) (by decide) (fun c8 => ?_) (fun c8 => ?_)
    · exact absurd ⟨c1, c8⟩ hx
    · refine v_lconst (v := 0) X (dk D_Mi_word 5 rfl) (by decide) ?_
      exact v_lret X hlk hrt (dk D_Mi_word 6 rfl) ⟨rfl, rfl⟩
