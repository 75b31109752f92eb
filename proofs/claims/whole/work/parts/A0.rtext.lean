/-! the reference: a text with its marks -/
theorem GE.more {g : mu_T} {I : Ip} {F : List Int32} (h : GE g I F) (he : ¬ gI g 1003 2 = 0) (G : List Int32) : GE g I (F ++ G) := by
  rcases h with ⟨a, -⟩ | ⟨a, b, c, d⟩
  · exact absurd a he
  · exact Or.inr ⟨a, b, by rw [List.length_append]; omega, d⟩
def spc (m : Int32) : Prop := isDig m = true ∨ m = 35 ∨ m = 42 ∨ m = 64
theorem mrk_spc {f : Fr} {op cl : List Int32} {m : Int32} : (¬ spc m → mrk f op cl m = none) := fun h => by
  rw [mrk, if_neg (fun z => h (Or.inl (by rw [z]; decide))), if_neg (fun z => h (Or.inl z)), if_neg (fun z => h (Or.inr (Or.inl z))), if_neg (fun z => h (Or.inr (Or.inr (Or.inl z)))), if_neg (fun z => h (Or.inr (Or.inr (Or.inr z))))]
theorem xpd_1 {mk : Int32 → Option (List Int32)} {b : Int32} {t : List Int32} (h : b &&& 255 = 36 → ∀ m s, t = m :: s → mk (m &&& 255) = none) : xpd mk (b :: t) = b :: xpd mk t := by
  cases t with
  | nil => rfl
  | cons m s =>
    rw [xpd]
    by_cases c : b &&& 255 = 36
    · rw [if_pos c, h c m s rfl]
    · rw [if_neg c]
theorem xpd_2 {mk : Int32 → Option (List Int32)} {b m : Int32} {t s : List Int32} (h : b &&& 255 = 36) (hm : mk (m &&& 255) = some s) : xpd mk (b :: m :: t) = s ++ xpd mk t := by
  rw [xpd, if_pos h, hm]
theorem mrk_some {f : Fr} {op cl : List Int32} {m : Int32} (h : spc m) : mrk f op cl m = some ((mrk f op cl m).getD []) := by
  rw [mrk]
  split
  · rfl
  · split
    · rfl
    · split
      · rfl
      · split
        · rfl
        · split
          · rfl
          · rename_i a b c d e
            rcases h with z | z | z | z
            · exact absurd z b
            · exact absurd z c
            · exact absurd z d
            · exact absurd z e
theorem drop_getL {as : List (List Int32)} {j : Nat} (h : j < as.length) : as.drop j = as.getD j [] :: as.drop (j + 1) := by
  rw [List.drop_eq_getElem_cons h, List.getD_eq_getElem?_getD, List.getElem?_eq_getElem h]; rfl
set_option maxHeartbeats 4000000 in
set_option maxRecDepth 100000 in
theorem r_giveText (l : Launch) (q : ev_T) {fu : Nat} {A B : List Me} {e : Me} {f : Fr} {r : List Fr} {I : Ip} {F op cl : List Int32} {g : mu_T} (hS : Shp g) (hI : RQ g fu I) (hE : GE g I F) (hC : AC g f r) (hQ : QT g op cl) (hob : ∀ x ∈ op, isByte x) (hcb : ∀ x ∈ cl, isByte x) (hM : RM g (A ++ e :: B)) : Ctr l q M_Rf_giveText 5 [.ref 1003, .int (nI A.length), .int (nI (hl r).length), .int (nI f.1.length), .int (nI (na r))] (0, 0, g) (fun v w => v = none ∧ rs g w.2.2 [2, 3, 20] [1010] ∧ GE w.2.2 I (F ++ xpd (mrk f op cl) e.2.2)) := by
  obtain ⟨-, -, -, hb1, hb2⟩ := hM.at
  have h16 := hC.1.1.2.2
  have hnr := hC.1.1.nam
  have hnl := nm_le (f := f) (r := r)
  have hna : na r + f.2.1.length ≤ 8192 := hC.1.2.2.1
  refine Ctr.mk (lb := [some (.ref 1003), some (.int (nI A.length)), some (.int (nI (hl r).length)), some (.int (nI f.1.length)), some (.int (nI (na r))), none, none, none, none, none, none]) (by decide +kernel) (Nat.le_of_ble_eq_true rfl) rfl rfl ?_
  intro pp ee ss mm aa bb mt cd X hrt hlk hnm
  refine v_inv (fun hBB _ => ?_)
  have htb : ∀ x ∈ e.2.2, x.toInt8.toInt32 = x := rw_byte hBB (r := 1015) (N := 16684) rfl hM.at.2.2.1
  have hnb : ∀ x ∈ f.1, x.toInt8.toInt32 = x := rw_byte hBB (r := 1018) (N := 16385) rfl hnr
  have loop : ∀ (n : Nat) (rest : List Int32) (k : Nat) (h : mu_T) (G : List Int32), rest.length ≤ n → e.2.2.drop k = rest → k ≤ e.2.2.length → rs g h [2, 3, 20] [1010] → GE h I (F ++ G) → G ++ xpd (mrk f op cl) rest = xpd (mrk f op cl) e.2.2 → Vv pp l ee (rmT 5 0 0) ss mm aa bb mt cd 11 q (MQ bb (Qw q (fun v w => v = none ∧ rs g w.2.2 [2, 3, 20] [1010] ∧ GE w.2.2 I (F ++ xpd (mrk f op cl) e.2.2))) aa ss 0 0 (fun a => q.1 ≤ a)) 27 [some (.ref 1003), some (.int (nI A.length)), some (.int (nI (hl r).length)), some (.int (nI f.1.length)), some (.int (nI (na r))), some (.int (nI ((mT A).length + e.1.length))), some (.int (nI f.2.1.length)), some (.int (nI k)), none, none, none] [] (0, 0, h) := by
    intro n
    induction n with
    | zero =>
      intro rest k h G hn hdr hkl hs hh hG
      have hSh := hs.S hS
      have hMh := (hM.kg hs).at.1
      have htx : ∀ j, j < e.2.2.length → gI h 1015 ((mT A).length + e.1.length + j) = e.2.2.getD j 0 := (hM.kg hs).at.2.2.1
      have hr0 : rest = [] := List.eq_nil_of_length_eq_zero (by omega)
      subst hr0
      have hk9 : e.2.2.length ≤ k := List.drop_eq_nil_iff.mp hdr
      refine v_iload X (dk D_Rf_giveText 17 rfl) rfl ?_
      refine v_aload_n X (dk D_Rf_giveText 18 rfl) rfl ?_
      refine v_getF X (dk D_Rf_giveText 19 rfl) F_Rf_40 rfl rfl (hSh.lt (by decide)) (hSh.2 1003 24) ?_
      refine v_iload_n X (dk D_Rf_giveText 20 rfl) rfl ?_
      refine v_iald X (dk D_Rf_giveText 21 rfl) rfl (hSh.lt (by decide)) (vp_in_nI (show A.length < 340 by omega) (by decide)) ?_
      refine v_icmp_ge (tgt := 303) X (dk D_Rf_giveText 22 rfl) (by decide) (fun _ => ?_) (fun c35 => absurd (by rw [nI_clamp (by omega), show gI h 1013 A.length = nI e.2.2.length from hMh.2.2.1]; exact nI_le (by omega) (by omega)) c35)
      exact v_vret X hlk hrt (dk D_Rf_giveText 151 rfl) ⟨rfl, hs, by rw [← hG]; rw [xpd, List.append_nil]; exact hh⟩
    | succ n ih =>
      intro rest k h G hn hdr hkl hs hh hG
      have hSh := hs.S hS
      have hMh := (hM.kg hs).at.1
      have htx : ∀ j, j < e.2.2.length → gI h 1015 ((mT A).length + e.1.length + j) = e.2.2.getD j 0 := (hM.kg hs).at.2.2.1
      cases rest with
      | nil =>
        have hk9 : e.2.2.length ≤ k := List.drop_eq_nil_iff.mp hdr
        refine v_iload X (dk D_Rf_giveText 17 rfl) rfl ?_
        refine v_aload_n X (dk D_Rf_giveText 18 rfl) rfl ?_
        refine v_getF X (dk D_Rf_giveText 19 rfl) F_Rf_40 rfl rfl (hSh.lt (by decide)) (hSh.2 1003 24) ?_
        refine v_iload_n X (dk D_Rf_giveText 20 rfl) rfl ?_
        refine v_iald X (dk D_Rf_giveText 21 rfl) rfl (hSh.lt (by decide)) (vp_in_nI (show A.length < 340 by omega) (by decide)) ?_
        refine v_icmp_ge (tgt := 303) X (dk D_Rf_giveText 22 rfl) (by decide) (fun _ => ?_) (fun c35 => absurd (by rw [nI_clamp (by omega), show gI h 1013 A.length = nI e.2.2.length from hMh.2.2.1]; exact nI_le (by omega) (by omega)) c35)
        exact v_vret X hlk hrt (dk D_Rf_giveText 151 rfl) ⟨rfl, hs, by rw [← hG]; rw [xpd, List.append_nil]; exact hh⟩
      | cons b tl =>
        have hk1 : k < e.2.2.length := Decidable.byContradiction (fun z => by rw [List.drop_eq_nil_of_le (by omega)] at hdr; cases hdr)
        have hbk : e.2.2.getD k 0 = b := by rw [drop_getD hk1] at hdr; exact (List.cons.inj hdr).1
        have hdr2 : tl = e.2.2.drop (k + 1) := by rw [drop_getD hk1] at hdr; exact (List.cons.inj hdr).2.symm
        have hbb : b.toInt8.toInt32 = b := by rw [← hbk]; exact htb _ (getD_mem hk1)
        have hln : e.2.2.length = k + 1 + tl.length := by rw [hdr2, List.length_drop]; omega
        rw [List.length_cons] at hn
        by_cases cerr : ¬ gI h 1003 2 = 0
        · refine v_iload X (dk D_Rf_giveText 17 rfl) rfl ?_
          refine v_aload_n X (dk D_Rf_giveText 18 rfl) rfl ?_
          refine v_getF X (dk D_Rf_giveText 19 rfl) F_Rf_40 rfl rfl (hSh.lt (by decide)) (hSh.2 1003 24) ?_
          refine v_iload_n X (dk D_Rf_giveText 20 rfl) rfl ?_
          refine v_iald X (dk D_Rf_giveText 21 rfl) rfl (hSh.lt (by decide)) (vp_in_nI (show A.length < 340 by omega) (by decide)) ?_
          refine v_icmp_ge (tgt := 303) X (dk D_Rf_giveText 22 rfl) (by decide) (fun c35 => absurd c35 (by rw [nI_clamp (by omega), show gI h 1013 A.length = nI e.2.2.length from hMh.2.2.1]; exact nI_ge (by omega) (by omega))) (fun _ => ?_)
          refine v_aload_n X (dk D_Rf_giveText 23 rfl) rfl ?_
          refine v_getI X (dk D_Rf_giveText 24 rfl) F_Rf_72 rfl rfl (hSh.lt (by decide)) ?_
          refine v_if_ne (tgt := 303) X (dk D_Rf_giveText 25 rfl) (by decide) (fun _ => ?_) (fun c42 => absurd c42 cerr)
          exact v_vret X hlk hrt (dk D_Rf_giveText 151 rfl) ⟨rfl, hs, by rw [← hG, ← List.append_assoc]; exact hh.more cerr _⟩
        have he0 : gI h 1003 2 = 0 := Decidable.not_not.mp cerr
        have inc2 : ∀ (u : mu_T) (G1 : List Int32) (b8 nx : Int32), rs g u [2, 3, 20] [1010] → GE u I (F ++ G1) → G1 ++ xpd (mrk f op cl) (e.2.2.drop (k + 2)) = xpd (mrk f op cl) e.2.2 → k + 2 ≤ e.2.2.length → Vv pp l ee (rmT 5 0 0) ss mm aa bb mt cd 11 q (MQ bb (Qw q (fun v w => v = none ∧ rs g w.2.2 [2, 3, 20] [1010] ∧ GE w.2.2 I (F ++ xpd (mrk f op cl) e.2.2))) aa ss 0 0 (fun a => q.1 ≤ a)) 286 [some (.ref 1003), some (.int (nI A.length)), some (.int (nI (hl r).length)), some (.int (nI f.1.length)), some (.int (nI (na r))), some (.int (nI ((mT A).length + e.1.length))), some (.int (nI f.2.1.length)), some (.int (nI k)), some (.int b8), some (.int nx), none] [] (0, 0, u) := by
          intro u G1 b8 nx hs hu hG hk2
          have hSu := hs.S hS
          refine v_iload X (dk D_Rf_giveText 143 rfl) rfl ?_
          refine v_iconst (v := 1) X (dk D_Rf_giveText 144 rfl) (by decide) ?_
          refine v_iadd X (dk D_Rf_giveText 145 rfl) ?_
          rw [nI_1]
          refine v_goto (tgt := 295) X (dk D_Rf_giveText 146 rfl) (by decide) ?_
          refine v_istore (lb := [some (.ref 1003), some (.int (nI A.length)), some (.int (nI (hl r).length)), some (.int (nI f.1.length)), some (.int (nI (na r))), some (.int (nI ((mT A).length + e.1.length))), some (.int (nI f.2.1.length)), some (.int (nI (k + 1))), some (.int _), some (.int _), none]) X (dk D_Rf_giveText 148 rfl) (by decide) rfl ?_
          refine v_iinc (v := nI (k + 1 + 1)) (lb := [some (.ref 1003), some (.int (nI A.length)), some (.int (nI (hl r).length)), some (.int (nI f.1.length)), some (.int (nI (na r))), some (.int (nI ((mT A).length + e.1.length))), some (.int (nI f.2.1.length)), some (.int (nI (k + 1 + 1))), some (.int _), some (.int _), none]) X (dk D_Rf_giveText 149 rfl) rfl (nI_1 _) (by decide) rfl ?_
          refine v_goto (tgt := 27) X (dk D_Rf_giveText 150 rfl) (by decide) ?_
          exact v_weak (la := [some (.ref 1003), some (.int (nI A.length)), some (.int (nI (hl r).length)), some (.int (nI f.1.length)), some (.int (nI (na r))), some (.int (nI ((mT A).length + e.1.length))), some (.int (nI f.2.1.length)), some (.int (nI (k + 1 + 1))), none, none, none]) ⟨rfl, rfl, rfl, rfl, rfl, rfl, rfl, rfl, trivial⟩ <| ih _ (k + 1 + 1) u G1 (by rw [List.length_drop]; omega) rfl hk2 hs hu hG
        have inc1 : ∀ (u : mu_T) (G1 : List Int32) (b8 nx : Int32), rs g u [2, 3, 20] [1010] → GE u I (F ++ G1) → G1 ++ xpd (mrk f op cl) (e.2.2.drop (k + 1)) = xpd (mrk f op cl) e.2.2 → Vv pp l ee (rmT 5 0 0) ss mm aa bb mt cd 11 q (MQ bb (Qw q (fun v w => v = none ∧ rs g w.2.2 [2, 3, 20] [1010] ∧ GE w.2.2 I (F ++ xpd (mrk f op cl) e.2.2))) aa ss 0 0 (fun a => q.1 ≤ a)) 293 [some (.ref 1003), some (.int (nI A.length)), some (.int (nI (hl r).length)), some (.int (nI f.1.length)), some (.int (nI (na r))), some (.int (nI ((mT A).length + e.1.length))), some (.int (nI f.2.1.length)), some (.int (nI k)), some (.int b8), some (.int nx), none] [] (0, 0, u) := by
          intro u G1 b8 nx hs hu hG
          have hSu := hs.S hS
          refine v_iload X (dk D_Rf_giveText 147 rfl) rfl ?_
          refine v_istore (lb := [some (.ref 1003), some (.int (nI A.length)), some (.int (nI (hl r).length)), some (.int (nI f.1.length)), some (.int (nI (na r))), some (.int (nI ((mT A).length + e.1.length))), some (.int (nI f.2.1.length)), some (.int (nI k)), some (.int _), some (.int _), none]) X (dk D_Rf_giveText 148 rfl) (by decide) rfl ?_
          refine v_iinc (v := nI (k + 1)) (lb := [some (.ref 1003), some (.int (nI A.length)), some (.int (nI (hl r).length)), some (.int (nI f.1.length)), some (.int (nI (na r))), some (.int (nI ((mT A).length + e.1.length))), some (.int (nI f.2.1.length)), some (.int (nI (k + 1))), some (.int _), some (.int _), none]) X (dk D_Rf_giveText 149 rfl) rfl (nI_1 _) (by decide) rfl ?_
          refine v_goto (tgt := 27) X (dk D_Rf_giveText 150 rfl) (by decide) ?_
          exact v_weak (la := [some (.ref 1003), some (.int (nI A.length)), some (.int (nI (hl r).length)), some (.int (nI f.1.length)), some (.int (nI (na r))), some (.int (nI ((mT A).length + e.1.length))), some (.int (nI f.2.1.length)), some (.int (nI (k + 1))), none, none, none]) ⟨rfl, rfl, rfl, rfl, rfl, rfl, rfl, rfl, trivial⟩ <| ih _ (k + 1) u G1 (by rw [List.length_drop]; omega) rfl (by omega) hs hu hG
        have s257 : ∀ (u : mu_T) (G1 : List Int32) (b8 nx : Int32), spc nx → rs g u [2, 3, 20] [1010] → GE u I (F ++ G1) → G1 ++ xpd (mrk f op cl) (e.2.2.drop (k + 2)) = xpd (mrk f op cl) e.2.2 → k + 2 ≤ e.2.2.length → Vv pp l ee (rmT 5 0 0) ss mm aa bb mt cd 11 q (MQ bb (Qw q (fun v w => v = none ∧ rs g w.2.2 [2, 3, 20] [1010] ∧ GE w.2.2 I (F ++ xpd (mrk f op cl) e.2.2))) aa ss 0 0 (fun a => q.1 ≤ a)) 257 [some (.ref 1003), some (.int (nI A.length)), some (.int (nI (hl r).length)), some (.int (nI f.1.length)), some (.int (nI (na r))), some (.int (nI ((mT A).length + e.1.length))), some (.int (nI f.2.1.length)), some (.int (nI k)), some (.int b8), some (.int nx), none] [] (0, 0, u) := by
          intro u G1 b8 nx hsp hs hu hG hk2
          have hSu := hs.S hS
          refine v_iload X (dk D_Rf_giveText 131 rfl) rfl ?_
          refine v_invS (As := [.int nx]) (st := []) X (r_isDigit l q (b := nx) (g := u)) (dk D_Rf_giveText 132 rfl) G_Rf_136 K_Rf_isDigit S_Rf_isDigit rfl rfl (Nat.le_of_ble_eq_true rfl) (Nat.le_of_ble_eq_true rfl) (Nat.le_of_ble_eq_true rfl) (Nat.le_of_ble_eq_true rfl) (Nat.le_of_ble_eq_true rfl) ?_
          rintro v ws ⟨rfl, hws⟩
          rw [hws]
          show Vv _ _ _ _ _ _ _ _ _ _ _ _ _ _ _ [.int (if isDig nx = true then 1 else 0)] (0, 0, u)
          refine v_if_ne (tgt := 286) X (dk D_Rf_giveText 133 rfl) (by decide) (fun c262 => ?_) (fun c262 => ?_)
          · exact inc2 u G1 b8 nx hs hu hG hk2
          · refine v_iload X (dk D_Rf_giveText 134 rfl) rfl ?_
            refine v_bipush (v := 35) X (dk D_Rf_giveText 135 rfl) (by decide) ?_
            refine v_icmp_eq (tgt := 286) X (dk D_Rf_giveText 136 rfl) (by decide) (fun c269 => ?_) (fun c269 => ?_)
            · exact inc2 u G1 b8 nx hs hu hG hk2
            · refine v_iload X (dk D_Rf_giveText 137 rfl) rfl ?_
              refine v_bipush (v := 42) X (dk D_Rf_giveText 138 rfl) (by decide) ?_
              refine v_icmp_eq (tgt := 286) X (dk D_Rf_giveText 139 rfl) (by decide) (fun c276 => ?_) (fun c276 => ?_)
              · exact inc2 u G1 b8 nx hs hu hG hk2
              · refine v_iload X (dk D_Rf_giveText 140 rfl) rfl ?_
                refine v_bipush (v := 64) X (dk D_Rf_giveText 141 rfl) (by decide) ?_
                refine v_icmp_ne (tgt := 293) X (dk D_Rf_giveText 142 rfl) (by decide) (fun c283 => ?_) (fun c283 => ?_)
                · rcases hsp with z | z | z | z
                  · exact absurd c262 (by rw [if_pos z]; decide)
                  · exact absurd z c269
                  · exact absurd z c276
                  · exact absurd z c283
                · exact inc2 u G1 b8 nx hs hu hG hk2
        have n257 : ∀ (u : mu_T) (G1 : List Int32) (b8 nx : Int32), ¬ spc nx → rs g u [2, 3, 20] [1010] → GE u I (F ++ G1) → G1 ++ xpd (mrk f op cl) (e.2.2.drop (k + 1)) = xpd (mrk f op cl) e.2.2 → Vv pp l ee (rmT 5 0 0) ss mm aa bb mt cd 11 q (MQ bb (Qw q (fun v w => v = none ∧ rs g w.2.2 [2, 3, 20] [1010] ∧ GE w.2.2 I (F ++ xpd (mrk f op cl) e.2.2))) aa ss 0 0 (fun a => q.1 ≤ a)) 257 [some (.ref 1003), some (.int (nI A.length)), some (.int (nI (hl r).length)), some (.int (nI f.1.length)), some (.int (nI (na r))), some (.int (nI ((mT A).length + e.1.length))), some (.int (nI f.2.1.length)), some (.int (nI k)), some (.int b8), some (.int nx), none] [] (0, 0, u) := by
          intro u G1 b8 nx hsp hs hu hG
          have hSu := hs.S hS
          refine v_iload X (dk D_Rf_giveText 131 rfl) rfl ?_
          refine v_invS (As := [.int nx]) (st := []) X (r_isDigit l q (b := nx) (g := u)) (dk D_Rf_giveText 132 rfl) G_Rf_136 K_Rf_isDigit S_Rf_isDigit rfl rfl (Nat.le_of_ble_eq_true rfl) (Nat.le_of_ble_eq_true rfl) (Nat.le_of_ble_eq_true rfl) (Nat.le_of_ble_eq_true rfl) (Nat.le_of_ble_eq_true rfl) ?_
          rintro v ws ⟨rfl, hws⟩
          rw [hws]
          show Vv _ _ _ _ _ _ _ _ _ _ _ _ _ _ _ [.int (if isDig nx = true then 1 else 0)] (0, 0, u)
          refine v_if_ne (tgt := 286) X (dk D_Rf_giveText 133 rfl) (by decide) (fun c262 => ?_) (fun c262 => ?_)
          · exact absurd (Or.inl (Decidable.byContradiction (fun z => c262 (by rw [if_neg z])))) hsp
          · refine v_iload X (dk D_Rf_giveText 134 rfl) rfl ?_
            refine v_bipush (v := 35) X (dk D_Rf_giveText 135 rfl) (by decide) ?_
            refine v_icmp_eq (tgt := 286) X (dk D_Rf_giveText 136 rfl) (by decide) (fun c269 => ?_) (fun c269 => ?_)
            · exact absurd (Or.inr (Or.inl c269)) hsp
            · refine v_iload X (dk D_Rf_giveText 137 rfl) rfl ?_
              refine v_bipush (v := 42) X (dk D_Rf_giveText 138 rfl) (by decide) ?_
              refine v_icmp_eq (tgt := 286) X (dk D_Rf_giveText 139 rfl) (by decide) (fun c276 => ?_) (fun c276 => ?_)
              · exact absurd (Or.inr (Or.inr (Or.inl c276))) hsp
              · refine v_iload X (dk D_Rf_giveText 140 rfl) rfl ?_
                refine v_bipush (v := 64) X (dk D_Rf_giveText 141 rfl) (by decide) ?_
                refine v_icmp_ne (tgt := 293) X (dk D_Rf_giveText 142 rfl) (by decide) (fun c283 => ?_) (fun c283 => ?_)
                · exact inc1 u G1 b8 nx hs hu hG
                · exact absurd (Or.inr (Or.inr (Or.inr c283))) hsp
        have g103 : ∀ (nx : Int32), ¬ spc nx → G ++ b :: xpd (mrk f op cl) (e.2.2.drop (k + 1)) = xpd (mrk f op cl) e.2.2 → Vv pp l ee (rmT 5 0 0) ss mm aa bb mt cd 11 q (MQ bb (Qw q (fun v w => v = none ∧ rs g w.2.2 [2, 3, 20] [1010] ∧ GE w.2.2 I (F ++ xpd (mrk f op cl) e.2.2))) aa ss 0 0 (fun a => q.1 ≤ a)) 103 [some (.ref 1003), some (.int (nI A.length)), some (.int (nI (hl r).length)), some (.int (nI f.1.length)), some (.int (nI (na r))), some (.int (nI ((mT A).length + e.1.length))), some (.int (nI f.2.1.length)), some (.int (nI k)), some (.int (b &&& 255)), some (.int nx), none] [] (0, 0, h) := by
          intro nx hsp hx
          refine v_iload X (dk D_Rf_giveText 59 rfl) rfl ?_
          refine v_bipush (v := 48) X (dk D_Rf_giveText 60 rfl) (by decide) ?_
          refine v_icmp_ne (tgt := 141) X (dk D_Rf_giveText 61 rfl) (by decide) (fun _ => ?_) (fun c107 => absurd c107 (fun z => hsp (Or.inl (by rw [z]; decide))))
          refine v_iload X (dk D_Rf_giveText 78 rfl) rfl ?_
          refine v_invS (As := [.int nx]) (st := []) X (r_isDigit l q (b := nx) (g := h)) (dk D_Rf_giveText 79 rfl) G_Rf_136 K_Rf_isDigit S_Rf_isDigit rfl rfl (Nat.le_of_ble_eq_true rfl) (Nat.le_of_ble_eq_true rfl) (Nat.le_of_ble_eq_true rfl) (Nat.le_of_ble_eq_true rfl) (Nat.le_of_ble_eq_true rfl) ?_
          rintro v ws ⟨rfl, hws⟩
          rw [hws]
          show Vv _ _ _ _ _ _ _ _ _ _ _ _ _ _ _ [.int (if isDig nx = true then 1 else 0)] (0, 0, h)
          refine v_if_eq (tgt := 163) X (dk D_Rf_giveText 80 rfl) (by decide) (fun _ => ?_) (fun c146 => absurd (by rw [if_neg (fun z => hsp (Or.inl z))]) c146)
          refine v_iload X (dk D_Rf_giveText 88 rfl) rfl ?_
          refine v_bipush (v := 35) X (dk D_Rf_giveText 89 rfl) (by decide) ?_
          refine v_icmp_ne (tgt := 180) X (dk D_Rf_giveText 90 rfl) (by decide) (fun _ => ?_) (fun c167 => absurd c167 (fun z => hsp (Or.inr (Or.inl z))))
          refine v_iload X (dk D_Rf_giveText 96 rfl) rfl ?_
          refine v_bipush (v := 42) X (dk D_Rf_giveText 97 rfl) (by decide) ?_
          refine v_icmp_eq (tgt := 194) X (dk D_Rf_giveText 98 rfl) (by decide) (fun c184 => absurd c184 (fun z => hsp (Or.inr (Or.inr (Or.inl z))))) (fun _ => ?_)
          refine v_iload X (dk D_Rf_giveText 99 rfl) rfl ?_
          refine v_bipush (v := 64) X (dk D_Rf_giveText 100 rfl) (by decide) ?_
          refine v_icmp_ne (tgt := 251) X (dk D_Rf_giveText 101 rfl) (by decide) (fun _ => ?_) (fun c191 => absurd c191 (fun z => hsp (Or.inr (Or.inr (Or.inr z)))))
          refine v_aload_n X (dk D_Rf_giveText 128 rfl) rfl ?_
          refine v_iload X (dk D_Rf_giveText 129 rfl) rfl ?_
          refine v_invV (As := [.int (b &&& 255)]) (st := []) X (r_give l q (x := (b &&& 255)) hSh (hI.kg hs) hh) (dk D_Rf_giveText 130 rfl) G_Rf_145 K_Rf_give V_Rf_give rfl rfl (hSh.lt (by decide)) rfl rfl (Nat.le_of_ble_eq_true rfl) (Nat.le_of_ble_eq_true rfl) (Nat.le_of_ble_eq_true rfl) (Nat.le_of_ble_eq_true rfl) (Nat.le_of_ble_eq_true rfl) ?_
          rintro v w1 ⟨rfl, a1, a2⟩
          rw [show (b &&& 255).toInt8.toInt32 = b from (and255_b b).trans hbb, List.append_assoc] at a2
          show Vv _ _ _ _ _ _ _ _ _ _ _ _ _ _ _ [] (0, 0, w1.2.2)
          exact n257 w1.2.2 (G ++ [b]) (b &&& 255) nx hsp (hs.tr a1) a2 (by rw [List.append_assoc]; exact hx)
        have s103 : ∀ (nx : Int32), spc nx → k + 2 ≤ e.2.2.length → xpd (mrk f op cl) e.2.2 = G ++ ((mrk f op cl nx).getD [] ++ xpd (mrk f op cl) (e.2.2.drop (k + 2))) → Vv pp l ee (rmT 5 0 0) ss mm aa bb mt cd 11 q (MQ bb (Qw q (fun v w => v = none ∧ rs g w.2.2 [2, 3, 20] [1010] ∧ GE w.2.2 I (F ++ xpd (mrk f op cl) e.2.2))) aa ss 0 0 (fun a => q.1 ≤ a)) 103 [some (.ref 1003), some (.int (nI A.length)), some (.int (nI (hl r).length)), some (.int (nI f.1.length)), some (.int (nI (na r))), some (.int (nI ((mT A).length + e.1.length))), some (.int (nI f.2.1.length)), some (.int (nI k)), some (.int (b &&& 255)), some (.int nx), none] [] (0, 0, h) := by
          intro nx hsp hk2 hG2
          by_cases c48 : nx = 48
          · have hmk : mrk f op cl nx = some f.1 := by rw [mrk, if_pos c48]
            have nlp : ∀ (dj j : Nat) (u : mu_T), j + dj = f.1.length → rs g u [2, 3, 20] [1010] → GE u I (F ++ G ++ f.1.take j) → Vv pp l ee (rmT 5 0 0) ss mm aa bb mt cd 11 q (MQ bb (Qw q (fun v w => v = none ∧ rs g w.2.2 [2, 3, 20] [1010] ∧ GE w.2.2 I (F ++ xpd (mrk f op cl) e.2.2))) aa ss 0 0 (fun a => q.1 ≤ a)) 113 [some (.ref 1003), some (.int (nI A.length)), some (.int (nI (hl r).length)), some (.int (nI f.1.length)), some (.int (nI (na r))), some (.int (nI ((mT A).length + e.1.length))), some (.int (nI f.2.1.length)), some (.int (nI k)), some (.int (b &&& 255)), some (.int nx), some (.int (nI j))] [] (0, 0, u) := by
              intro dj
              induction dj with
              | zero =>
                intro j u hjd hsu hu
                have hSu := hsu.S hS
                refine v_iload X (dk D_Rf_giveText 64 rfl) rfl ?_
                refine v_iload_n X (dk D_Rf_giveText 65 rfl) rfl ?_
                refine v_icmp_ge (tgt := 138) X (dk D_Rf_giveText 66 rfl) (by decide) (fun _ => ?_) (fun c116 => absurd (nI_le (by omega) (by omega)) c116)
                refine v_goto (tgt := 257) X (dk D_Rf_giveText 77 rfl) (by decide) ?_
                exact v_weak (la := [some (.ref 1003), some (.int (nI A.length)), some (.int (nI (hl r).length)), some (.int (nI f.1.length)), some (.int (nI (na r))), some (.int (nI ((mT A).length + e.1.length))), some (.int (nI f.2.1.length)), some (.int (nI k)), some (.int (b &&& 255)), some (.int nx), none]) ⟨rfl, rfl, rfl, rfl, rfl, rfl, rfl, rfl, rfl, rfl, trivial⟩ <| s257 u (G ++ f.1) (b &&& 255) nx hsp hsu (by rw [List.take_of_length_le (by omega), List.append_assoc] at hu; exact hu) (by rw [hG2, hmk, Option.getD_some, List.append_assoc]) hk2
              | succ dj ihj =>
                intro j u hjd hsu hu
                have hSu := hsu.S hS
                refine v_iload X (dk D_Rf_giveText 64 rfl) rfl ?_
                refine v_iload_n X (dk D_Rf_giveText 65 rfl) rfl ?_
                refine v_icmp_ge (tgt := 138) X (dk D_Rf_giveText 66 rfl) (by decide) (fun c116 => absurd c116 (nI_ge (by omega) (by omega))) (fun _ => ?_)
                refine v_aload_n X (dk D_Rf_giveText 67 rfl) rfl ?_
                refine v_aload_n X (dk D_Rf_giveText 68 rfl) rfl ?_
                refine v_getF X (dk D_Rf_giveText 69 rfl) F_Rf_56 rfl rfl (hSu.lt (by decide)) (hSu.2 1003 35) ?_
                refine v_iload_n X (dk D_Rf_giveText 70 rfl) rfl ?_
                refine v_iload X (dk D_Rf_giveText 71 rfl) rfl ?_
                refine v_iadd X (dk D_Rf_giveText 72 rfl) ?_
                rw [nI_add]
                refine v_bald X (dk D_Rf_giveText 73 rfl) rfl (hSu.lt (by decide)) (vp_in_nI (show (hl r).length + j < 16385 by omega) (by decide)) ?_
                rw [nI_clamp (by omega), hsu.row (by decide) (by decide), hnr j (by omega)]
                refine v_invV (As := [.int (f.1.getD j 0)]) (st := []) X (r_give l q (x := (f.1.getD j 0)) hSu (hI.kg hsu) hu) (dk D_Rf_giveText 74 rfl) G_Rf_145 K_Rf_give V_Rf_give rfl rfl (hSu.lt (by decide)) rfl rfl (Nat.le_of_ble_eq_true rfl) (Nat.le_of_ble_eq_true rfl) (Nat.le_of_ble_eq_true rfl) (Nat.le_of_ble_eq_true rfl) (Nat.le_of_ble_eq_true rfl) ?_
                rintro v w1 ⟨rfl, a1, a2⟩
                rw [show (f.1.getD j 0).toInt8.toInt32 = (f.1.getD j 0) from hnb _ (getD_mem (by omega)), List.append_assoc, ← take_s (by omega)] at a2
                show Vv _ _ _ _ _ _ _ _ _ _ _ _ _ _ _ [] (0, 0, w1.2.2)
                refine v_iinc (v := nI (j + 1)) (lb := [some (.ref 1003), some (.int (nI A.length)), some (.int (nI (hl r).length)), some (.int (nI f.1.length)), some (.int (nI (na r))), some (.int (nI ((mT A).length + e.1.length))), some (.int (nI f.2.1.length)), some (.int (nI k)), some (.int (b &&& 255)), some (.int nx), some (.int (nI (j + 1)))]) X (dk D_Rf_giveText 75 rfl) rfl (nI_1 _) (by decide) rfl ?_
                refine v_goto (tgt := 113) X (dk D_Rf_giveText 76 rfl) (by decide) ?_
                exact ihj (j + 1) w1.2.2 (by omega) (hsu.tr a1) a2
            refine v_iload X (dk D_Rf_giveText 59 rfl) rfl ?_
            refine v_bipush (v := 48) X (dk D_Rf_giveText 60 rfl) (by decide) ?_
            refine v_icmp_ne (tgt := 141) X (dk D_Rf_giveText 61 rfl) (by decide) (fun c107 => absurd c48 c107) (fun _ => ?_)
            refine v_iconst (v := nI 0) X (dk D_Rf_giveText 62 rfl) (by decide) ?_
            refine v_istore (lb := [some (.ref 1003), some (.int (nI A.length)), some (.int (nI (hl r).length)), some (.int (nI f.1.length)), some (.int (nI (na r))), some (.int (nI ((mT A).length + e.1.length))), some (.int (nI f.2.1.length)), some (.int (nI k)), some (.int (b &&& 255)), some (.int nx), some (.int (nI 0))]) X (dk D_Rf_giveText 63 rfl) (by decide) rfl ?_
            exact nlp f.1.length 0 h (by omega) hs (by rw [List.take_zero, List.append_nil]; exact hh)
          by_cases cdg : isDig nx = true
          · obtain ⟨j, hj9, hj⟩ := dig_of cdg c48
            have hj48 : nx - 48 = nI (j + 1) := by rw [← nI_1, ← hj, Int32.sub_eq_add_neg, Int32.sub_eq_add_neg, Int32.add_assoc]; rfl
            have hmk : mrk f op cl nx = some (f.2.1.getD j []) := by rw [mrk, if_neg c48, if_pos cdg, hj, nI_clamp (by omega)]
            refine v_iload X (dk D_Rf_giveText 59 rfl) rfl ?_
            refine v_bipush (v := 48) X (dk D_Rf_giveText 60 rfl) (by decide) ?_
            refine v_icmp_ne (tgt := 141) X (dk D_Rf_giveText 61 rfl) (by decide) (fun _ => ?_) (fun c107 => absurd c107 c48)
            refine v_iload X (dk D_Rf_giveText 78 rfl) rfl ?_
            refine v_invS (As := [.int nx]) (st := []) X (r_isDigit l q (b := nx) (g := h)) (dk D_Rf_giveText 79 rfl) G_Rf_136 K_Rf_isDigit S_Rf_isDigit rfl rfl (Nat.le_of_ble_eq_true rfl) (Nat.le_of_ble_eq_true rfl) (Nat.le_of_ble_eq_true rfl) (Nat.le_of_ble_eq_true rfl) (Nat.le_of_ble_eq_true rfl) ?_
            rintro v ws ⟨rfl, hws⟩
            rw [hws]
            show Vv _ _ _ _ _ _ _ _ _ _ _ _ _ _ _ [.int (if isDig nx = true then 1 else 0)] (0, 0, h)
            refine v_if_eq (tgt := 163) X (dk D_Rf_giveText 80 rfl) (by decide) (fun c146 => absurd c146 (by rw [if_pos cdg]; decide)) (fun _ => ?_)
            refine v_aload_n X (dk D_Rf_giveText 81 rfl) rfl ?_
            refine v_iload X (dk D_Rf_giveText 82 rfl) rfl ?_
            refine v_iload X (dk D_Rf_giveText 83 rfl) rfl ?_
            refine v_bipush (v := 48) X (dk D_Rf_giveText 84 rfl) (by decide) ?_
            refine v_isub X (dk D_Rf_giveText 85 rfl) ?_
            rw [hj48]
            refine v_invV (As := [.int (nI (na r)), .int (nI (j + 1))]) (st := []) X (r_giveArgument l q (i := j) hSh (hI.kg hs) hh (hC.kg hs) (by omega)) (dk D_Rf_giveText 86 rfl) G_Rf_275 K_Rf_giveArgument V_Rf_giveArgument rfl rfl (hSh.lt (by decide)) rfl rfl (Nat.le_of_ble_eq_true rfl) (Nat.le_of_ble_eq_true rfl) (Nat.le_of_ble_eq_true rfl) (Nat.le_of_ble_eq_true rfl) (Nat.le_of_ble_eq_true rfl) ?_
            rintro v w1 ⟨rfl, a1, a2⟩
            show Vv _ _ _ _ _ _ _ _ _ _ _ _ _ _ _ [] (0, 0, w1.2.2)
            refine v_goto (tgt := 257) X (dk D_Rf_giveText 87 rfl) (by decide) ?_
            exact s257 w1.2.2 (G ++ f.2.1.getD j []) (b &&& 255) nx hsp (hs.tr a1) (by rw [List.append_assoc] at a2; exact a2) (by rw [hG2, hmk, Option.getD_some, List.append_assoc]) hk2
          by_cases c35 : nx = 35
          · have hmk : mrk f op cl nx = some (decB (nI f.2.1.length)) := by rw [mrk, if_neg c48, if_neg cdg, if_pos c35]
            refine v_iload X (dk D_Rf_giveText 59 rfl) rfl ?_
            refine v_bipush (v := 48) X (dk D_Rf_giveText 60 rfl) (by decide) ?_
            refine v_icmp_ne (tgt := 141) X (dk D_Rf_giveText 61 rfl) (by decide) (fun _ => ?_) (fun c107 => absurd c107 c48)
            refine v_iload X (dk D_Rf_giveText 78 rfl) rfl ?_
            refine v_invS (As := [.int nx]) (st := []) X (r_isDigit l q (b := nx) (g := h)) (dk D_Rf_giveText 79 rfl) G_Rf_136 K_Rf_isDigit S_Rf_isDigit rfl rfl (Nat.le_of_ble_eq_true rfl) (Nat.le_of_ble_eq_true rfl) (Nat.le_of_ble_eq_true rfl) (Nat.le_of_ble_eq_true rfl) (Nat.le_of_ble_eq_true rfl) ?_
            rintro v ws ⟨rfl, hws⟩
            rw [hws]
            show Vv _ _ _ _ _ _ _ _ _ _ _ _ _ _ _ [.int (if isDig nx = true then 1 else 0)] (0, 0, h)
            refine v_if_eq (tgt := 163) X (dk D_Rf_giveText 80 rfl) (by decide) (fun _ => ?_) (fun c146 => absurd (by rw [if_neg cdg]) c146)
            refine v_iload X (dk D_Rf_giveText 88 rfl) rfl ?_
            refine v_bipush (v := 35) X (dk D_Rf_giveText 89 rfl) (by decide) ?_
            refine v_icmp_ne (tgt := 180) X (dk D_Rf_giveText 90 rfl) (by decide) (fun c167 => absurd c35 c167) (fun _ => ?_)
            refine v_aload_n X (dk D_Rf_giveText 91 rfl) rfl ?_
            refine v_iload X (dk D_Rf_giveText 92 rfl) rfl ?_
            refine v_i2l X (dk D_Rf_giveText 93 rfl) rfl ?_
            refine v_invV (As := [.long (nI f.2.1.length).toInt64]) (st := []) X (r_giveNumber l q (x := nI f.2.1.length) hSh (hI.kg hs) hh) (dk D_Rf_giveText 94 rfl) G_Rf_278 K_Rf_giveNumber V_Rf_giveNumber rfl rfl (hSh.lt (by decide)) rfl rfl (Nat.le_of_ble_eq_true rfl) (Nat.le_of_ble_eq_true rfl) (Nat.le_of_ble_eq_true rfl) (Nat.le_of_ble_eq_true rfl) (Nat.le_of_ble_eq_true rfl) ?_
            rintro v w1 ⟨rfl, a1, a2⟩
            show Vv _ _ _ _ _ _ _ _ _ _ _ _ _ _ _ [] (0, 0, w1.2.2)
            refine v_goto (tgt := 257) X (dk D_Rf_giveText 95 rfl) (by decide) ?_
            exact s257 w1.2.2 (G ++ decB (nI f.2.1.length)) (b &&& 255) nx hsp (hs.tr a1) (by rw [List.append_assoc] at a2; exact a2) (by rw [hG2, hmk, Option.getD_some, List.append_assoc]) hk2
          by_cases c42 : nx = 42
          · have hmk : mrk f op cl nx = some (jn (qtd false op cl) f.2.1) := by rw [mrk, if_neg c48, if_neg cdg, if_neg c35, if_pos c42]
            have alp : ∀ (dj j : Nat) (u : mu_T) (ys : List Int32), j + dj = f.2.1.length → rs g u [2, 3, 20] [1010] → GE u I (F ++ G ++ ys) → ys ++ jnF (qtd false op cl) 1 (j + 1) (f.2.1.drop j) = jn (qtd false op cl) f.2.1 → Vv pp l ee (rmT 5 0 0) ss mm aa bb mt cd 11 q (MQ bb (Qw q (fun v w => v = none ∧ rs g w.2.2 [2, 3, 20] [1010] ∧ GE w.2.2 I (F ++ xpd (mrk f op cl) e.2.2))) aa ss 0 0 (fun a => q.1 ≤ a)) 197 [some (.ref 1003), some (.int (nI A.length)), some (.int (nI (hl r).length)), some (.int (nI f.1.length)), some (.int (nI (na r))), some (.int (nI ((mT A).length + e.1.length))), some (.int (nI f.2.1.length)), some (.int (nI k)), some (.int (b &&& 255)), some (.int nx), some (.int (nI (j + 1)))] [] (0, 0, u) := by
              intro dj
              induction dj with
              | zero =>
                intro j u ys hjd hsu hu hy
                have hSu := hsu.S hS
                refine v_iload X (dk D_Rf_giveText 104 rfl) rfl ?_
                refine v_iload X (dk D_Rf_giveText 105 rfl) rfl ?_
                refine v_icmp_gt (tgt := 248) X (dk D_Rf_giveText 106 rfl) (by decide) (fun _ => ?_) (fun c201 => absurd (nI_lt (by omega) (by omega)) c201)
                refine v_goto (tgt := 257) X (dk D_Rf_giveText 127 rfl) (by decide) ?_
                exact v_weak (la := [some (.ref 1003), some (.int (nI A.length)), some (.int (nI (hl r).length)), some (.int (nI f.1.length)), some (.int (nI (na r))), some (.int (nI ((mT A).length + e.1.length))), some (.int (nI f.2.1.length)), some (.int (nI k)), some (.int (b &&& 255)), some (.int nx), none]) ⟨rfl, rfl, rfl, rfl, rfl, rfl, rfl, rfl, rfl, rfl, trivial⟩ <| s257 u (G ++ jn (qtd false op cl) f.2.1) (b &&& 255) nx hsp hsu (by rw [← hy, List.drop_eq_nil_of_le (by omega), jnF, List.append_nil, ← List.append_assoc]; exact hu) (by rw [hG2, hmk, Option.getD_some, List.append_assoc]) hk2
              | succ dj ihj =>
                intro j u ys hjd hsu hu hy
                have hSu := hsu.S hS
                have hjl : j < f.2.1.length := by omega
                by_cases c0 : j = 0
                · refine v_iload X (dk D_Rf_giveText 104 rfl) rfl ?_
                  refine v_iload X (dk D_Rf_giveText 105 rfl) rfl ?_
                  refine v_icmp_gt (tgt := 248) X (dk D_Rf_giveText 106 rfl) (by decide) (fun c201 => absurd c201 (nI_nlt (by omega) (by omega))) (fun _ => ?_)
                  refine v_iload X (dk D_Rf_giveText 107 rfl) rfl ?_
                  refine v_iconst (v := 1) X (dk D_Rf_giveText 108 rfl) (by decide) ?_
                  refine v_icmp_le (tgt := 216) X (dk D_Rf_giveText 109 rfl) (by decide) (fun _ => ?_) (fun c207 => absurd (nI_le (b := 1) (by omega) (by decide)) c207)
                  refine v_iload X (dk D_Rf_giveText 113 rfl) rfl ?_
                  refine v_bipush (v := 42) X (dk D_Rf_giveText 114 rfl) (by decide) ?_
                  refine v_icmp_ne (tgt := 234) X (dk D_Rf_giveText 115 rfl) (by decide) (fun c220 => absurd c42 c220) (fun _ => ?_)
                  refine v_aload_n X (dk D_Rf_giveText 116 rfl) rfl ?_
                  refine v_iload X (dk D_Rf_giveText 117 rfl) rfl ?_
                  refine v_iload X (dk D_Rf_giveText 118 rfl) rfl ?_
                  refine v_invV (As := [.int (nI (na r)), .int (nI (j + 1))]) (st := []) X (r_giveArgument l q (i := j) hSu (hI.kg hsu) hu (hC.kg hsu) (by omega)) (dk D_Rf_giveText 119 rfl) G_Rf_275 K_Rf_giveArgument V_Rf_giveArgument rfl rfl (hSu.lt (by decide)) rfl rfl (Nat.le_of_ble_eq_true rfl) (Nat.le_of_ble_eq_true rfl) (Nat.le_of_ble_eq_true rfl) (Nat.le_of_ble_eq_true rfl) (Nat.le_of_ble_eq_true rfl) ?_
                  rintro v w2 ⟨rfl, b1, b2⟩
                  show Vv _ _ _ _ _ _ _ _ _ _ _ _ _ _ _ [] (0, 0, w2.2.2)
                  refine v_goto (tgt := 242) X (dk D_Rf_giveText 120 rfl) (by decide) ?_
                  refine v_iinc (v := nI (j + 1 + 1)) (lb := [some (.ref 1003), some (.int (nI A.length)), some (.int (nI (hl r).length)), some (.int (nI f.1.length)), some (.int (nI (na r))), some (.int (nI ((mT A).length + e.1.length))), some (.int (nI f.2.1.length)), some (.int (nI k)), some (.int (b &&& 255)), some (.int nx), some (.int (nI (j + 1 + 1)))]) X (dk D_Rf_giveText 125 rfl) rfl (nI_1 _) (by decide) rfl ?_
                  refine v_goto (tgt := 197) X (dk D_Rf_giveText 126 rfl) (by decide) ?_
                  exact ihj (j + 1) w2.2.2 (ys ++ ([] ++ (qtd false op cl) (f.2.1.getD j []))) (by omega) (hsu.tr b1) (by rw [show F ++ G ++ (ys ++ ([] ++ (qtd false op cl) (f.2.1.getD j []))) = F ++ G ++ ys ++ f.2.1.getD j [] from by simp [qtd]]; exact b2) (by rw [← hy, drop_getL hjl, jnF, if_neg (by omega)]; simp only [List.append_assoc])
                · refine v_iload X (dk D_Rf_giveText 104 rfl) rfl ?_
                  refine v_iload X (dk D_Rf_giveText 105 rfl) rfl ?_
                  refine v_icmp_gt (tgt := 248) X (dk D_Rf_giveText 106 rfl) (by decide) (fun c201 => absurd c201 (nI_nlt (by omega) (by omega))) (fun _ => ?_)
                  refine v_iload X (dk D_Rf_giveText 107 rfl) rfl ?_
                  refine v_iconst (v := 1) X (dk D_Rf_giveText 108 rfl) (by decide) ?_
                  refine v_icmp_le (tgt := 216) X (dk D_Rf_giveText 109 rfl) (by decide) (fun c207 => absurd c207 (fun z => absurd ((nI_leI (b := 1) (by omega) (by decide)).mp z) (by omega))) (fun _ => ?_)
                  refine v_aload_n X (dk D_Rf_giveText 110 rfl) rfl ?_
                  refine v_bipush (v := 44) X (dk D_Rf_giveText 111 rfl) (by decide) ?_
                  refine v_invV (As := [.int 44]) (st := []) X (r_give l q (x := 44) hSu (hI.kg hsu) hu) (dk D_Rf_giveText 112 rfl) G_Rf_145 K_Rf_give V_Rf_give rfl rfl (hSu.lt (by decide)) rfl rfl (Nat.le_of_ble_eq_true rfl) (Nat.le_of_ble_eq_true rfl) (Nat.le_of_ble_eq_true rfl) (Nat.le_of_ble_eq_true rfl) (Nat.le_of_ble_eq_true rfl) ?_
                  rintro v w1 ⟨rfl, a1, a2⟩
                  have hsu2 := hsu.tr a1
                  have hSu2 := hsu2.S hS
                  show Vv _ _ _ _ _ _ _ _ _ _ _ _ _ _ _ [] (0, 0, w1.2.2)
                  refine v_iload X (dk D_Rf_giveText 113 rfl) rfl ?_
                  refine v_bipush (v := 42) X (dk D_Rf_giveText 114 rfl) (by decide) ?_
                  refine v_icmp_ne (tgt := 234) X (dk D_Rf_giveText 115 rfl) (by decide) (fun c220 => absurd c42 c220) (fun _ => ?_)
                  refine v_aload_n X (dk D_Rf_giveText 116 rfl) rfl ?_
                  refine v_iload X (dk D_Rf_giveText 117 rfl) rfl ?_
                  refine v_iload X (dk D_Rf_giveText 118 rfl) rfl ?_
                  refine v_invV (As := [.int (nI (na r)), .int (nI (j + 1))]) (st := []) X (r_giveArgument l q (i := j) hSu2 (hI.kg hsu2) a2 (hC.kg hsu2) (by omega)) (dk D_Rf_giveText 119 rfl) G_Rf_275 K_Rf_giveArgument V_Rf_giveArgument rfl rfl (hSu2.lt (by decide)) rfl rfl (Nat.le_of_ble_eq_true rfl) (Nat.le_of_ble_eq_true rfl) (Nat.le_of_ble_eq_true rfl) (Nat.le_of_ble_eq_true rfl) (Nat.le_of_ble_eq_true rfl) ?_
                  rintro v w2 ⟨rfl, b1, b2⟩
                  show Vv _ _ _ _ _ _ _ _ _ _ _ _ _ _ _ [] (0, 0, w2.2.2)
                  refine v_goto (tgt := 242) X (dk D_Rf_giveText 120 rfl) (by decide) ?_
                  refine v_iinc (v := nI (j + 1 + 1)) (lb := [some (.ref 1003), some (.int (nI A.length)), some (.int (nI (hl r).length)), some (.int (nI f.1.length)), some (.int (nI (na r))), some (.int (nI ((mT A).length + e.1.length))), some (.int (nI f.2.1.length)), some (.int (nI k)), some (.int (b &&& 255)), some (.int nx), some (.int (nI (j + 1 + 1)))]) X (dk D_Rf_giveText 125 rfl) rfl (nI_1 _) (by decide) rfl ?_
                  refine v_goto (tgt := 197) X (dk D_Rf_giveText 126 rfl) (by decide) ?_
                  exact ihj (j + 1) w2.2.2 (ys ++ ([44] ++ (qtd false op cl) (f.2.1.getD j []))) (by omega) (hsu2.tr b1) (by rw [show F ++ G ++ (ys ++ ([44] ++ (qtd false op cl) (f.2.1.getD j []))) = F ++ G ++ ys ++ [(44 : Int32).toInt8.toInt32] ++ f.2.1.getD j [] from by simp [qtd]]; exact b2) (by rw [← hy, drop_getL hjl, jnF, if_pos (by omega)]; simp only [List.append_assoc])
            refine v_iload X (dk D_Rf_giveText 59 rfl) rfl ?_
            refine v_bipush (v := 48) X (dk D_Rf_giveText 60 rfl) (by decide) ?_
            refine v_icmp_ne (tgt := 141) X (dk D_Rf_giveText 61 rfl) (by decide) (fun _ => ?_) (fun c107 => absurd c107 c48)
            refine v_iload X (dk D_Rf_giveText 78 rfl) rfl ?_
            refine v_invS (As := [.int nx]) (st := []) X (r_isDigit l q (b := nx) (g := h)) (dk D_Rf_giveText 79 rfl) G_Rf_136 K_Rf_isDigit S_Rf_isDigit rfl rfl (Nat.le_of_ble_eq_true rfl) (Nat.le_of_ble_eq_true rfl) (Nat.le_of_ble_eq_true rfl) (Nat.le_of_ble_eq_true rfl) (Nat.le_of_ble_eq_true rfl) ?_
            rintro v ws ⟨rfl, hws⟩
            rw [hws]
            show Vv _ _ _ _ _ _ _ _ _ _ _ _ _ _ _ [.int (if isDig nx = true then 1 else 0)] (0, 0, h)
            refine v_if_eq (tgt := 163) X (dk D_Rf_giveText 80 rfl) (by decide) (fun _ => ?_) (fun c146 => absurd (by rw [if_neg cdg]) c146)
            refine v_iload X (dk D_Rf_giveText 88 rfl) rfl ?_
            refine v_bipush (v := 35) X (dk D_Rf_giveText 89 rfl) (by decide) ?_
            refine v_icmp_ne (tgt := 180) X (dk D_Rf_giveText 90 rfl) (by decide) (fun _ => ?_) (fun c167 => absurd c167 c35)
            refine v_iload X (dk D_Rf_giveText 96 rfl) rfl ?_
            refine v_bipush (v := 42) X (dk D_Rf_giveText 97 rfl) (by decide) ?_
            refine v_icmp_eq (tgt := 194) X (dk D_Rf_giveText 98 rfl) (by decide) (fun _ => ?_) (fun c184 => absurd c42 c184)
            refine v_iconst (v := nI (0 + 1)) X (dk D_Rf_giveText 102 rfl) (by decide) ?_
            refine v_istore (lb := [some (.ref 1003), some (.int (nI A.length)), some (.int (nI (hl r).length)), some (.int (nI f.1.length)), some (.int (nI (na r))), some (.int (nI ((mT A).length + e.1.length))), some (.int (nI f.2.1.length)), some (.int (nI k)), some (.int (b &&& 255)), some (.int nx), some (.int (nI (0 + 1)))]) X (dk D_Rf_giveText 103 rfl) (by decide) rfl ?_
            exact alp f.2.1.length 0 h [] (by omega) hs (by rw [List.append_nil]; exact hh) (by rw [List.nil_append]; exact jnF_jn)
          have c64 : nx = 64 := by
            rcases hsp with z | z | z | z
            · exact absurd z cdg
            · exact absurd z c35
            · exact absurd z c42
            · exact z
          have hmk : mrk f op cl nx = some (jn (qtd true op cl) f.2.1) := by rw [mrk, if_neg c48, if_neg cdg, if_neg c35, if_neg c42, if_pos c64]
          have alp : ∀ (dj j : Nat) (u : mu_T) (ys : List Int32), j + dj = f.2.1.length → rs g u [2, 3, 20] [1010] → GE u I (F ++ G ++ ys) → ys ++ jnF (qtd true op cl) 1 (j + 1) (f.2.1.drop j) = jn (qtd true op cl) f.2.1 → Vv pp l ee (rmT 5 0 0) ss mm aa bb mt cd 11 q (MQ bb (Qw q (fun v w => v = none ∧ rs g w.2.2 [2, 3, 20] [1010] ∧ GE w.2.2 I (F ++ xpd (mrk f op cl) e.2.2))) aa ss 0 0 (fun a => q.1 ≤ a)) 197 [some (.ref 1003), some (.int (nI A.length)), some (.int (nI (hl r).length)), some (.int (nI f.1.length)), some (.int (nI (na r))), some (.int (nI ((mT A).length + e.1.length))), some (.int (nI f.2.1.length)), some (.int (nI k)), some (.int (b &&& 255)), some (.int nx), some (.int (nI (j + 1)))] [] (0, 0, u) := by
            intro dj
            induction dj with
            | zero =>
              intro j u ys hjd hsu hu hy
              have hSu := hsu.S hS
              refine v_iload X (dk D_Rf_giveText 104 rfl) rfl ?_
              refine v_iload X (dk D_Rf_giveText 105 rfl) rfl ?_
              refine v_icmp_gt (tgt := 248) X (dk D_Rf_giveText 106 rfl) (by decide) (fun _ => ?_) (fun c201 => absurd (nI_lt (by omega) (by omega)) c201)
              refine v_goto (tgt := 257) X (dk D_Rf_giveText 127 rfl) (by decide) ?_
              exact v_weak (la := [some (.ref 1003), some (.int (nI A.length)), some (.int (nI (hl r).length)), some (.int (nI f.1.length)), some (.int (nI (na r))), some (.int (nI ((mT A).length + e.1.length))), some (.int (nI f.2.1.length)), some (.int (nI k)), some (.int (b &&& 255)), some (.int nx), none]) ⟨rfl, rfl, rfl, rfl, rfl, rfl, rfl, rfl, rfl, rfl, trivial⟩ <| s257 u (G ++ jn (qtd true op cl) f.2.1) (b &&& 255) nx hsp hsu (by rw [← hy, List.drop_eq_nil_of_le (by omega), jnF, List.append_nil, ← List.append_assoc]; exact hu) (by rw [hG2, hmk, Option.getD_some, List.append_assoc]) hk2
            | succ dj ihj =>
              intro j u ys hjd hsu hu hy
              have hSu := hsu.S hS
              have hjl : j < f.2.1.length := by omega
              by_cases c0 : j = 0
              · refine v_iload X (dk D_Rf_giveText 104 rfl) rfl ?_
                refine v_iload X (dk D_Rf_giveText 105 rfl) rfl ?_
                refine v_icmp_gt (tgt := 248) X (dk D_Rf_giveText 106 rfl) (by decide) (fun c201 => absurd c201 (nI_nlt (by omega) (by omega))) (fun _ => ?_)
                refine v_iload X (dk D_Rf_giveText 107 rfl) rfl ?_
                refine v_iconst (v := 1) X (dk D_Rf_giveText 108 rfl) (by decide) ?_
                refine v_icmp_le (tgt := 216) X (dk D_Rf_giveText 109 rfl) (by decide) (fun _ => ?_) (fun c207 => absurd (nI_le (b := 1) (by omega) (by decide)) c207)
                refine v_iload X (dk D_Rf_giveText 113 rfl) rfl ?_
                refine v_bipush (v := 42) X (dk D_Rf_giveText 114 rfl) (by decide) ?_
                refine v_icmp_ne (tgt := 234) X (dk D_Rf_giveText 115 rfl) (by decide) (fun _ => ?_) (fun c220 => absurd c220 c42)
                refine v_aload_n X (dk D_Rf_giveText 121 rfl) rfl ?_
                refine v_iload X (dk D_Rf_giveText 122 rfl) rfl ?_
                refine v_iload X (dk D_Rf_giveText 123 rfl) rfl ?_
                refine v_invV (As := [.int (nI (na r)), .int (nI (j + 1))]) (st := []) X (r_giveQuoted l q (i := j) hSu (hI.kg hsu) hu (hC.kg hsu) (hQ.kg hsu) hob hcb (by omega)) (dk D_Rf_giveText 124 rfl) G_Rf_282 K_Rf_giveQuotedArgument V_Rf_giveQuotedArgument rfl rfl (hSu.lt (by decide)) rfl rfl (Nat.le_of_ble_eq_true rfl) (Nat.le_of_ble_eq_true rfl) (Nat.le_of_ble_eq_true rfl) (Nat.le_of_ble_eq_true rfl) (Nat.le_of_ble_eq_true rfl) ?_
                rintro v w2 ⟨rfl, b1, b2⟩
                show Vv _ _ _ _ _ _ _ _ _ _ _ _ _ _ _ [] (0, 0, w2.2.2)
                refine v_iinc (v := nI (j + 1 + 1)) (lb := [some (.ref 1003), some (.int (nI A.length)), some (.int (nI (hl r).length)), some (.int (nI f.1.length)), some (.int (nI (na r))), some (.int (nI ((mT A).length + e.1.length))), some (.int (nI f.2.1.length)), some (.int (nI k)), some (.int (b &&& 255)), some (.int nx), some (.int (nI (j + 1 + 1)))]) X (dk D_Rf_giveText 125 rfl) rfl (nI_1 _) (by decide) rfl ?_
                refine v_goto (tgt := 197) X (dk D_Rf_giveText 126 rfl) (by decide) ?_
                exact ihj (j + 1) w2.2.2 (ys ++ ([] ++ (qtd true op cl) (f.2.1.getD j []))) (by omega) (hsu.tr b1) (by rw [show F ++ G ++ (ys ++ ([] ++ (qtd true op cl) (f.2.1.getD j []))) = F ++ G ++ ys ++ qtd true op cl (f.2.1.getD j []) from by simp [qtd]]; exact b2) (by rw [← hy, drop_getL hjl, jnF, if_neg (by omega)]; simp only [List.append_assoc])
              · refine v_iload X (dk D_Rf_giveText 104 rfl) rfl ?_
                refine v_iload X (dk D_Rf_giveText 105 rfl) rfl ?_
                refine v_icmp_gt (tgt := 248) X (dk D_Rf_giveText 106 rfl) (by decide) (fun c201 => absurd c201 (nI_nlt (by omega) (by omega))) (fun _ => ?_)
                refine v_iload X (dk D_Rf_giveText 107 rfl) rfl ?_
                refine v_iconst (v := 1) X (dk D_Rf_giveText 108 rfl) (by decide) ?_
                refine v_icmp_le (tgt := 216) X (dk D_Rf_giveText 109 rfl) (by decide) (fun c207 => absurd c207 (fun z => absurd ((nI_leI (b := 1) (by omega) (by decide)).mp z) (by omega))) (fun _ => ?_)
                refine v_aload_n X (dk D_Rf_giveText 110 rfl) rfl ?_
                refine v_bipush (v := 44) X (dk D_Rf_giveText 111 rfl) (by decide) ?_
                refine v_invV (As := [.int 44]) (st := []) X (r_give l q (x := 44) hSu (hI.kg hsu) hu) (dk D_Rf_giveText 112 rfl) G_Rf_145 K_Rf_give V_Rf_give rfl rfl (hSu.lt (by decide)) rfl rfl (Nat.le_of_ble_eq_true rfl) (Nat.le_of_ble_eq_true rfl) (Nat.le_of_ble_eq_true rfl) (Nat.le_of_ble_eq_true rfl) (Nat.le_of_ble_eq_true rfl) ?_
                rintro v w1 ⟨rfl, a1, a2⟩
                have hsu2 := hsu.tr a1
                have hSu2 := hsu2.S hS
                show Vv _ _ _ _ _ _ _ _ _ _ _ _ _ _ _ [] (0, 0, w1.2.2)
                refine v_iload X (dk D_Rf_giveText 113 rfl) rfl ?_
                refine v_bipush (v := 42) X (dk D_Rf_giveText 114 rfl) (by decide) ?_
                refine v_icmp_ne (tgt := 234) X (dk D_Rf_giveText 115 rfl) (by decide) (fun _ => ?_) (fun c220 => absurd c220 c42)
                refine v_aload_n X (dk D_Rf_giveText 121 rfl) rfl ?_
                refine v_iload X (dk D_Rf_giveText 122 rfl) rfl ?_
                refine v_iload X (dk D_Rf_giveText 123 rfl) rfl ?_
                refine v_invV (As := [.int (nI (na r)), .int (nI (j + 1))]) (st := []) X (r_giveQuoted l q (i := j) hSu2 (hI.kg hsu2) a2 (hC.kg hsu2) (hQ.kg hsu2) hob hcb (by omega)) (dk D_Rf_giveText 124 rfl) G_Rf_282 K_Rf_giveQuotedArgument V_Rf_giveQuotedArgument rfl rfl (hSu2.lt (by decide)) rfl rfl (Nat.le_of_ble_eq_true rfl) (Nat.le_of_ble_eq_true rfl) (Nat.le_of_ble_eq_true rfl) (Nat.le_of_ble_eq_true rfl) (Nat.le_of_ble_eq_true rfl) ?_
                rintro v w2 ⟨rfl, b1, b2⟩
                show Vv _ _ _ _ _ _ _ _ _ _ _ _ _ _ _ [] (0, 0, w2.2.2)
                refine v_iinc (v := nI (j + 1 + 1)) (lb := [some (.ref 1003), some (.int (nI A.length)), some (.int (nI (hl r).length)), some (.int (nI f.1.length)), some (.int (nI (na r))), some (.int (nI ((mT A).length + e.1.length))), some (.int (nI f.2.1.length)), some (.int (nI k)), some (.int (b &&& 255)), some (.int nx), some (.int (nI (j + 1 + 1)))]) X (dk D_Rf_giveText 125 rfl) rfl (nI_1 _) (by decide) rfl ?_
                refine v_goto (tgt := 197) X (dk D_Rf_giveText 126 rfl) (by decide) ?_
                exact ihj (j + 1) w2.2.2 (ys ++ ([44] ++ (qtd true op cl) (f.2.1.getD j []))) (by omega) (hsu2.tr b1) (by rw [show F ++ G ++ (ys ++ ([44] ++ (qtd true op cl) (f.2.1.getD j []))) = F ++ G ++ ys ++ [(44 : Int32).toInt8.toInt32] ++ qtd true op cl (f.2.1.getD j []) from by simp [qtd]]; exact b2) (by rw [← hy, drop_getL hjl, jnF, if_pos (by omega)]; simp only [List.append_assoc])
          refine v_iload X (dk D_Rf_giveText 59 rfl) rfl ?_
          refine v_bipush (v := 48) X (dk D_Rf_giveText 60 rfl) (by decide) ?_
          refine v_icmp_ne (tgt := 141) X (dk D_Rf_giveText 61 rfl) (by decide) (fun _ => ?_) (fun c107 => absurd c107 c48)
          refine v_iload X (dk D_Rf_giveText 78 rfl) rfl ?_
          refine v_invS (As := [.int nx]) (st := []) X (r_isDigit l q (b := nx) (g := h)) (dk D_Rf_giveText 79 rfl) G_Rf_136 K_Rf_isDigit S_Rf_isDigit rfl rfl (Nat.le_of_ble_eq_true rfl) (Nat.le_of_ble_eq_true rfl) (Nat.le_of_ble_eq_true rfl) (Nat.le_of_ble_eq_true rfl) (Nat.le_of_ble_eq_true rfl) ?_
          rintro v ws ⟨rfl, hws⟩
          rw [hws]
          show Vv _ _ _ _ _ _ _ _ _ _ _ _ _ _ _ [.int (if isDig nx = true then 1 else 0)] (0, 0, h)
          refine v_if_eq (tgt := 163) X (dk D_Rf_giveText 80 rfl) (by decide) (fun _ => ?_) (fun c146 => absurd (by rw [if_neg cdg]) c146)
          refine v_iload X (dk D_Rf_giveText 88 rfl) rfl ?_
          refine v_bipush (v := 35) X (dk D_Rf_giveText 89 rfl) (by decide) ?_
          refine v_icmp_ne (tgt := 180) X (dk D_Rf_giveText 90 rfl) (by decide) (fun _ => ?_) (fun c167 => absurd c167 c35)
          refine v_iload X (dk D_Rf_giveText 96 rfl) rfl ?_
          refine v_bipush (v := 42) X (dk D_Rf_giveText 97 rfl) (by decide) ?_
          refine v_icmp_eq (tgt := 194) X (dk D_Rf_giveText 98 rfl) (by decide) (fun c184 => absurd c184 c42) (fun _ => ?_)
          refine v_iload X (dk D_Rf_giveText 99 rfl) rfl ?_
          refine v_bipush (v := 64) X (dk D_Rf_giveText 100 rfl) (by decide) ?_
          refine v_icmp_ne (tgt := 251) X (dk D_Rf_giveText 101 rfl) (by decide) (fun c191 => absurd c64 c191) (fun _ => ?_)
          refine v_iconst (v := nI (0 + 1)) X (dk D_Rf_giveText 102 rfl) (by decide) ?_
          refine v_istore (lb := [some (.ref 1003), some (.int (nI A.length)), some (.int (nI (hl r).length)), some (.int (nI f.1.length)), some (.int (nI (na r))), some (.int (nI ((mT A).length + e.1.length))), some (.int (nI f.2.1.length)), some (.int (nI k)), some (.int (b &&& 255)), some (.int nx), some (.int (nI (0 + 1)))]) X (dk D_Rf_giveText 103 rfl) (by decide) rfl ?_
          exact alp f.2.1.length 0 h [] (by omega) hs (by rw [List.append_nil]; exact hh) (by rw [List.nil_append]; exact jnF_jn)
        by_cases c36 : ¬ b &&& 255 = 36
        · refine v_iload X (dk D_Rf_giveText 17 rfl) rfl ?_
          refine v_aload_n X (dk D_Rf_giveText 18 rfl) rfl ?_
          refine v_getF X (dk D_Rf_giveText 19 rfl) F_Rf_40 rfl rfl (hSh.lt (by decide)) (hSh.2 1003 24) ?_
          refine v_iload_n X (dk D_Rf_giveText 20 rfl) rfl ?_
          refine v_iald X (dk D_Rf_giveText 21 rfl) rfl (hSh.lt (by decide)) (vp_in_nI (show A.length < 340 by omega) (by decide)) ?_
          refine v_icmp_ge (tgt := 303) X (dk D_Rf_giveText 22 rfl) (by decide) (fun c35 => absurd c35 (by rw [nI_clamp (by omega), show gI h 1013 A.length = nI e.2.2.length from hMh.2.2.1]; exact nI_ge (by omega) (by omega))) (fun _ => ?_)
          refine v_aload_n X (dk D_Rf_giveText 23 rfl) rfl ?_
          refine v_getI X (dk D_Rf_giveText 24 rfl) F_Rf_72 rfl rfl (hSh.lt (by decide)) ?_
          refine v_if_ne (tgt := 303) X (dk D_Rf_giveText 25 rfl) (by decide) (fun c42 => absurd he0 c42) (fun _ => ?_)
          refine v_aload_n X (dk D_Rf_giveText 26 rfl) rfl ?_
          refine v_getF X (dk D_Rf_giveText 27 rfl) F_Rf_46 rfl rfl (hSh.lt (by decide)) (hSh.2 1003 26) ?_
          refine v_iload X (dk D_Rf_giveText 28 rfl) rfl ?_
          refine v_iload X (dk D_Rf_giveText 29 rfl) rfl ?_
          refine v_iadd X (dk D_Rf_giveText 30 rfl) ?_
          rw [nI_add]
          refine v_bald X (dk D_Rf_giveText 31 rfl) rfl (hSh.lt (by decide)) (vp_in_nI (show (mT A).length + e.1.length + k < 16684 by omega) (by decide)) ?_
          rw [nI_clamp (by omega), htx k (by omega), hbk]
          refine v_sipush (v := 255) X (dk D_Rf_giveText 32 rfl) (by decide) ?_
          refine v_iand X (dk D_Rf_giveText 33 rfl) ?_
          refine v_istore (lb := [some (.ref 1003), some (.int (nI A.length)), some (.int (nI (hl r).length)), some (.int (nI f.1.length)), some (.int (nI (na r))), some (.int (nI ((mT A).length + e.1.length))), some (.int (nI f.2.1.length)), some (.int (nI k)), some (.int (b &&& 255)), none, none]) X (dk D_Rf_giveText 34 rfl) (by decide) rfl ?_
          refine v_iload X (dk D_Rf_giveText 35 rfl) rfl ?_
          refine v_bipush (v := 36) X (dk D_Rf_giveText 36 rfl) (by decide) ?_
          refine v_icmp_ne (tgt := 100) X (dk D_Rf_giveText 37 rfl) (by decide) (fun _ => ?_) (fun c65 => absurd c65 c36)
          refine v_iconst (v := -1) X (dk D_Rf_giveText 57 rfl) (by decide) ?_
          refine v_istore (lb := [some (.ref 1003), some (.int (nI A.length)), some (.int (nI (hl r).length)), some (.int (nI f.1.length)), some (.int (nI (na r))), some (.int (nI ((mT A).length + e.1.length))), some (.int (nI f.2.1.length)), some (.int (nI k)), some (.int (b &&& 255)), some (.int _), none]) X (dk D_Rf_giveText 58 rfl) (by decide) rfl ?_
          exact g103 (-1) (by intro z; rcases z with z | z | z | z <;> revert z <;> decide) (by rw [← hG, xpd_1 (fun z => absurd z c36), hdr2])
        · have c36 : b &&& 255 = 36 := Decidable.not_not.mp c36
          cases htl : tl with
          | nil =>
            rw [htl] at hln
            rw [List.length_nil] at hln
            refine v_iload X (dk D_Rf_giveText 17 rfl) rfl ?_
            refine v_aload_n X (dk D_Rf_giveText 18 rfl) rfl ?_
            refine v_getF X (dk D_Rf_giveText 19 rfl) F_Rf_40 rfl rfl (hSh.lt (by decide)) (hSh.2 1003 24) ?_
            refine v_iload_n X (dk D_Rf_giveText 20 rfl) rfl ?_
            refine v_iald X (dk D_Rf_giveText 21 rfl) rfl (hSh.lt (by decide)) (vp_in_nI (show A.length < 340 by omega) (by decide)) ?_
            refine v_icmp_ge (tgt := 303) X (dk D_Rf_giveText 22 rfl) (by decide) (fun c35 => absurd c35 (by rw [nI_clamp (by omega), show gI h 1013 A.length = nI e.2.2.length from hMh.2.2.1]; exact nI_ge (by omega) (by omega))) (fun _ => ?_)
            refine v_aload_n X (dk D_Rf_giveText 23 rfl) rfl ?_
            refine v_getI X (dk D_Rf_giveText 24 rfl) F_Rf_72 rfl rfl (hSh.lt (by decide)) ?_
            refine v_if_ne (tgt := 303) X (dk D_Rf_giveText 25 rfl) (by decide) (fun c42 => absurd he0 c42) (fun _ => ?_)
            refine v_aload_n X (dk D_Rf_giveText 26 rfl) rfl ?_
            refine v_getF X (dk D_Rf_giveText 27 rfl) F_Rf_46 rfl rfl (hSh.lt (by decide)) (hSh.2 1003 26) ?_
            refine v_iload X (dk D_Rf_giveText 28 rfl) rfl ?_
            refine v_iload X (dk D_Rf_giveText 29 rfl) rfl ?_
            refine v_iadd X (dk D_Rf_giveText 30 rfl) ?_
            rw [nI_add]
            refine v_bald X (dk D_Rf_giveText 31 rfl) rfl (hSh.lt (by decide)) (vp_in_nI (show (mT A).length + e.1.length + k < 16684 by omega) (by decide)) ?_
            rw [nI_clamp (by omega), htx k (by omega), hbk]
            refine v_sipush (v := 255) X (dk D_Rf_giveText 32 rfl) (by decide) ?_
            refine v_iand X (dk D_Rf_giveText 33 rfl) ?_
            refine v_istore (lb := [some (.ref 1003), some (.int (nI A.length)), some (.int (nI (hl r).length)), some (.int (nI f.1.length)), some (.int (nI (na r))), some (.int (nI ((mT A).length + e.1.length))), some (.int (nI f.2.1.length)), some (.int (nI k)), some (.int (b &&& 255)), none, none]) X (dk D_Rf_giveText 34 rfl) (by decide) rfl ?_
            refine v_iload X (dk D_Rf_giveText 35 rfl) rfl ?_
            refine v_bipush (v := 36) X (dk D_Rf_giveText 36 rfl) (by decide) ?_
            refine v_icmp_ne (tgt := 100) X (dk D_Rf_giveText 37 rfl) (by decide) (fun c65 => absurd c36 c65) (fun _ => ?_)
            refine v_iload X (dk D_Rf_giveText 38 rfl) rfl ?_
            refine v_iconst (v := 1) X (dk D_Rf_giveText 39 rfl) (by decide) ?_
            refine v_iadd X (dk D_Rf_giveText 40 rfl) ?_
            rw [nI_1]
            refine v_aload_n X (dk D_Rf_giveText 41 rfl) rfl ?_
            refine v_getF X (dk D_Rf_giveText 42 rfl) F_Rf_40 rfl rfl (hSh.lt (by decide)) (hSh.2 1003 24) ?_
            refine v_iload_n X (dk D_Rf_giveText 43 rfl) rfl ?_
            refine v_iald X (dk D_Rf_giveText 44 rfl) rfl (hSh.lt (by decide)) (vp_in_nI (show A.length < 340 by omega) (by decide)) ?_
            refine v_icmp_ge (tgt := 100) X (dk D_Rf_giveText 45 rfl) (by decide) (fun _ => ?_) (fun c78 => absurd (by rw [nI_clamp (by omega), show gI h 1013 A.length = nI e.2.2.length from hMh.2.2.1]; exact nI_le (by omega) (by omega)) c78)
            refine v_iconst (v := -1) X (dk D_Rf_giveText 57 rfl) (by decide) ?_
            refine v_istore (lb := [some (.ref 1003), some (.int (nI A.length)), some (.int (nI (hl r).length)), some (.int (nI f.1.length)), some (.int (nI (na r))), some (.int (nI ((mT A).length + e.1.length))), some (.int (nI f.2.1.length)), some (.int (nI k)), some (.int (b &&& 255)), some (.int _), none]) X (dk D_Rf_giveText 58 rfl) (by decide) rfl ?_
            exact g103 (-1) (by intro z; rcases z with z | z | z | z <;> revert z <;> decide) (by rw [← hG, xpd_1 (fun _ m s hms => by rw [hms] at htl; cases htl), hdr2])
          | cons m1 t2 =>
            rw [htl] at hln
            rw [List.length_cons] at hln
            have hmk1 : e.2.2.getD (k + 1) 0 = m1 := by rw [htl, drop_getD (by omega)] at hdr2; exact (List.cons.inj hdr2).1.symm
            have hdr3 : t2 = e.2.2.drop (k + 2) := by rw [htl, drop_getD (by omega)] at hdr2; exact (List.cons.inj hdr2).2
            by_cases csp : spc (m1 &&& 255)
            · refine v_iload X (dk D_Rf_giveText 17 rfl) rfl ?_
              refine v_aload_n X (dk D_Rf_giveText 18 rfl) rfl ?_
              refine v_getF X (dk D_Rf_giveText 19 rfl) F_Rf_40 rfl rfl (hSh.lt (by decide)) (hSh.2 1003 24) ?_
              refine v_iload_n X (dk D_Rf_giveText 20 rfl) rfl ?_
              refine v_iald X (dk D_Rf_giveText 21 rfl) rfl (hSh.lt (by decide)) (vp_in_nI (show A.length < 340 by omega) (by decide)) ?_
              refine v_icmp_ge (tgt := 303) X (dk D_Rf_giveText 22 rfl) (by decide) (fun c35 => absurd c35 (by rw [nI_clamp (by omega), show gI h 1013 A.length = nI e.2.2.length from hMh.2.2.1]; exact nI_ge (by omega) (by omega))) (fun _ => ?_)
              refine v_aload_n X (dk D_Rf_giveText 23 rfl) rfl ?_
              refine v_getI X (dk D_Rf_giveText 24 rfl) F_Rf_72 rfl rfl (hSh.lt (by decide)) ?_
              refine v_if_ne (tgt := 303) X (dk D_Rf_giveText 25 rfl) (by decide) (fun c42 => absurd he0 c42) (fun _ => ?_)
              refine v_aload_n X (dk D_Rf_giveText 26 rfl) rfl ?_
              refine v_getF X (dk D_Rf_giveText 27 rfl) F_Rf_46 rfl rfl (hSh.lt (by decide)) (hSh.2 1003 26) ?_
              refine v_iload X (dk D_Rf_giveText 28 rfl) rfl ?_
              refine v_iload X (dk D_Rf_giveText 29 rfl) rfl ?_
              refine v_iadd X (dk D_Rf_giveText 30 rfl) ?_
              rw [nI_add]
              refine v_bald X (dk D_Rf_giveText 31 rfl) rfl (hSh.lt (by decide)) (vp_in_nI (show (mT A).length + e.1.length + k < 16684 by omega) (by decide)) ?_
              rw [nI_clamp (by omega), htx k (by omega), hbk]
              refine v_sipush (v := 255) X (dk D_Rf_giveText 32 rfl) (by decide) ?_
              refine v_iand X (dk D_Rf_giveText 33 rfl) ?_
              refine v_istore (lb := [some (.ref 1003), some (.int (nI A.length)), some (.int (nI (hl r).length)), some (.int (nI f.1.length)), some (.int (nI (na r))), some (.int (nI ((mT A).length + e.1.length))), some (.int (nI f.2.1.length)), some (.int (nI k)), some (.int (b &&& 255)), none, none]) X (dk D_Rf_giveText 34 rfl) (by decide) rfl ?_
              refine v_iload X (dk D_Rf_giveText 35 rfl) rfl ?_
              refine v_bipush (v := 36) X (dk D_Rf_giveText 36 rfl) (by decide) ?_
              refine v_icmp_ne (tgt := 100) X (dk D_Rf_giveText 37 rfl) (by decide) (fun c65 => absurd c36 c65) (fun _ => ?_)
              refine v_iload X (dk D_Rf_giveText 38 rfl) rfl ?_
              refine v_iconst (v := 1) X (dk D_Rf_giveText 39 rfl) (by decide) ?_
              refine v_iadd X (dk D_Rf_giveText 40 rfl) ?_
              rw [nI_1]
              refine v_aload_n X (dk D_Rf_giveText 41 rfl) rfl ?_
              refine v_getF X (dk D_Rf_giveText 42 rfl) F_Rf_40 rfl rfl (hSh.lt (by decide)) (hSh.2 1003 24) ?_
              refine v_iload_n X (dk D_Rf_giveText 43 rfl) rfl ?_
              refine v_iald X (dk D_Rf_giveText 44 rfl) rfl (hSh.lt (by decide)) (vp_in_nI (show A.length < 340 by omega) (by decide)) ?_
              refine v_icmp_ge (tgt := 100) X (dk D_Rf_giveText 45 rfl) (by decide) (fun c78 => absurd c78 (by rw [nI_clamp (by omega), show gI h 1013 A.length = nI e.2.2.length from hMh.2.2.1]; exact nI_ge (by omega) (by omega))) (fun _ => ?_)
              refine v_aload_n X (dk D_Rf_giveText 46 rfl) rfl ?_
              refine v_getF X (dk D_Rf_giveText 47 rfl) F_Rf_46 rfl rfl (hSh.lt (by decide)) (hSh.2 1003 26) ?_
              refine v_iload X (dk D_Rf_giveText 48 rfl) rfl ?_
              refine v_iload X (dk D_Rf_giveText 49 rfl) rfl ?_
              refine v_iadd X (dk D_Rf_giveText 50 rfl) ?_
              rw [nI_add]
              refine v_iconst (v := 1) X (dk D_Rf_giveText 51 rfl) (by decide) ?_
              refine v_iadd X (dk D_Rf_giveText 52 rfl) ?_
              rw [nI_1]
              refine v_bald X (dk D_Rf_giveText 53 rfl) rfl (hSh.lt (by decide)) (vp_in_nI (show (mT A).length + e.1.length + k + 1 < 16684 by omega) (by decide)) ?_
              rw [nI_clamp (by omega), Nat.add_assoc ((mT A).length + e.1.length), htx (k + 1) (by omega), hmk1]
              refine v_sipush (v := 255) X (dk D_Rf_giveText 54 rfl) (by decide) ?_
              refine v_iand X (dk D_Rf_giveText 55 rfl) ?_
              refine v_goto (tgt := 101) X (dk D_Rf_giveText 56 rfl) (by decide) ?_
              refine v_istore (lb := [some (.ref 1003), some (.int (nI A.length)), some (.int (nI (hl r).length)), some (.int (nI f.1.length)), some (.int (nI (na r))), some (.int (nI ((mT A).length + e.1.length))), some (.int (nI f.2.1.length)), some (.int (nI k)), some (.int (b &&& 255)), some (.int _), none]) X (dk D_Rf_giveText 58 rfl) (by decide) rfl ?_
              exact s103 (m1 &&& 255) csp (by omega) (by rw [← hG, htl, xpd_2 c36 (show mrk f op cl (m1 &&& 255) = some ((mrk f op cl (m1 &&& 255)).getD []) from mrk_some csp), hdr3])
            · refine v_iload X (dk D_Rf_giveText 17 rfl) rfl ?_
              refine v_aload_n X (dk D_Rf_giveText 18 rfl) rfl ?_
              refine v_getF X (dk D_Rf_giveText 19 rfl) F_Rf_40 rfl rfl (hSh.lt (by decide)) (hSh.2 1003 24) ?_
              refine v_iload_n X (dk D_Rf_giveText 20 rfl) rfl ?_
              refine v_iald X (dk D_Rf_giveText 21 rfl) rfl (hSh.lt (by decide)) (vp_in_nI (show A.length < 340 by omega) (by decide)) ?_
              refine v_icmp_ge (tgt := 303) X (dk D_Rf_giveText 22 rfl) (by decide) (fun c35 => absurd c35 (by rw [nI_clamp (by omega), show gI h 1013 A.length = nI e.2.2.length from hMh.2.2.1]; exact nI_ge (by omega) (by omega))) (fun _ => ?_)
              refine v_aload_n X (dk D_Rf_giveText 23 rfl) rfl ?_
              refine v_getI X (dk D_Rf_giveText 24 rfl) F_Rf_72 rfl rfl (hSh.lt (by decide)) ?_
              refine v_if_ne (tgt := 303) X (dk D_Rf_giveText 25 rfl) (by decide) (fun c42 => absurd he0 c42) (fun _ => ?_)
              refine v_aload_n X (dk D_Rf_giveText 26 rfl) rfl ?_
              refine v_getF X (dk D_Rf_giveText 27 rfl) F_Rf_46 rfl rfl (hSh.lt (by decide)) (hSh.2 1003 26) ?_
              refine v_iload X (dk D_Rf_giveText 28 rfl) rfl ?_
              refine v_iload X (dk D_Rf_giveText 29 rfl) rfl ?_
              refine v_iadd X (dk D_Rf_giveText 30 rfl) ?_
              rw [nI_add]
              refine v_bald X (dk D_Rf_giveText 31 rfl) rfl (hSh.lt (by decide)) (vp_in_nI (show (mT A).length + e.1.length + k < 16684 by omega) (by decide)) ?_
              rw [nI_clamp (by omega), htx k (by omega), hbk]
              refine v_sipush (v := 255) X (dk D_Rf_giveText 32 rfl) (by decide) ?_
              refine v_iand X (dk D_Rf_giveText 33 rfl) ?_
              refine v_istore (lb := [some (.ref 1003), some (.int (nI A.length)), some (.int (nI (hl r).length)), some (.int (nI f.1.length)), some (.int (nI (na r))), some (.int (nI ((mT A).length + e.1.length))), some (.int (nI f.2.1.length)), some (.int (nI k)), some (.int (b &&& 255)), none, none]) X (dk D_Rf_giveText 34 rfl) (by decide) rfl ?_
              refine v_iload X (dk D_Rf_giveText 35 rfl) rfl ?_
              refine v_bipush (v := 36) X (dk D_Rf_giveText 36 rfl) (by decide) ?_
              refine v_icmp_ne (tgt := 100) X (dk D_Rf_giveText 37 rfl) (by decide) (fun c65 => absurd c36 c65) (fun _ => ?_)
              refine v_iload X (dk D_Rf_giveText 38 rfl) rfl ?_
              refine v_iconst (v := 1) X (dk D_Rf_giveText 39 rfl) (by decide) ?_
              refine v_iadd X (dk D_Rf_giveText 40 rfl) ?_
              rw [nI_1]
              refine v_aload_n X (dk D_Rf_giveText 41 rfl) rfl ?_
              refine v_getF X (dk D_Rf_giveText 42 rfl) F_Rf_40 rfl rfl (hSh.lt (by decide)) (hSh.2 1003 24) ?_
              refine v_iload_n X (dk D_Rf_giveText 43 rfl) rfl ?_
              refine v_iald X (dk D_Rf_giveText 44 rfl) rfl (hSh.lt (by decide)) (vp_in_nI (show A.length < 340 by omega) (by decide)) ?_
              refine v_icmp_ge (tgt := 100) X (dk D_Rf_giveText 45 rfl) (by decide) (fun c78 => absurd c78 (by rw [nI_clamp (by omega), show gI h 1013 A.length = nI e.2.2.length from hMh.2.2.1]; exact nI_ge (by omega) (by omega))) (fun _ => ?_)
              refine v_aload_n X (dk D_Rf_giveText 46 rfl) rfl ?_
              refine v_getF X (dk D_Rf_giveText 47 rfl) F_Rf_46 rfl rfl (hSh.lt (by decide)) (hSh.2 1003 26) ?_
              refine v_iload X (dk D_Rf_giveText 48 rfl) rfl ?_
              refine v_iload X (dk D_Rf_giveText 49 rfl) rfl ?_
              refine v_iadd X (dk D_Rf_giveText 50 rfl) ?_
              rw [nI_add]
              refine v_iconst (v := 1) X (dk D_Rf_giveText 51 rfl) (by decide) ?_
              refine v_iadd X (dk D_Rf_giveText 52 rfl) ?_
              rw [nI_1]
              refine v_bald X (dk D_Rf_giveText 53 rfl) rfl (hSh.lt (by decide)) (vp_in_nI (show (mT A).length + e.1.length + k + 1 < 16684 by omega) (by decide)) ?_
              rw [nI_clamp (by omega), Nat.add_assoc ((mT A).length + e.1.length), htx (k + 1) (by omega), hmk1]
              refine v_sipush (v := 255) X (dk D_Rf_giveText 54 rfl) (by decide) ?_
              refine v_iand X (dk D_Rf_giveText 55 rfl) ?_
              refine v_goto (tgt := 101) X (dk D_Rf_giveText 56 rfl) (by decide) ?_
              refine v_istore (lb := [some (.ref 1003), some (.int (nI A.length)), some (.int (nI (hl r).length)), some (.int (nI f.1.length)), some (.int (nI (na r))), some (.int (nI ((mT A).length + e.1.length))), some (.int (nI f.2.1.length)), some (.int (nI k)), some (.int (b &&& 255)), some (.int _), none]) X (dk D_Rf_giveText 58 rfl) (by decide) rfl ?_
              exact g103 (m1 &&& 255) csp (by rw [← hG, xpd_1 (fun _ m s hms => by rw [htl] at hms; cases hms; exact mrk_spc csp), hdr2])
  refine v_aload_n X (dk D_Rf_giveText 0 rfl) rfl ?_
  refine v_getF X (dk D_Rf_giveText 1 rfl) F_Rf_34 rfl rfl (hS.lt (by decide)) (hS.2 1003 22) ?_
  refine v_iload_n X (dk D_Rf_giveText 2 rfl) rfl ?_
  refine v_iald X (dk D_Rf_giveText 3 rfl) rfl (hS.lt (by decide)) (vp_in_nI (show A.length < 340 by omega) (by decide)) ?_
  rw [nI_clamp (by omega), hM.at.1.1]
  refine v_aload_n X (dk D_Rf_giveText 4 rfl) rfl ?_
  refine v_getF X (dk D_Rf_giveText 5 rfl) F_Rf_37 rfl rfl (hS.lt (by decide)) (hS.2 1003 23) ?_
  refine v_iload_n X (dk D_Rf_giveText 6 rfl) rfl ?_
  refine v_iald X (dk D_Rf_giveText 7 rfl) rfl (hS.lt (by decide)) (vp_in_nI (show A.length < 340 by omega) (by decide)) ?_
  rw [nI_clamp (by omega), hM.at.1.2.1]
  refine v_iadd X (dk D_Rf_giveText 8 rfl) ?_
  rw [nI_add]
  refine v_istore (lb := [some (.ref 1003), some (.int (nI A.length)), some (.int (nI (hl r).length)), some (.int (nI f.1.length)), some (.int (nI (na r))), some (.int (nI ((mT A).length + e.1.length))), none, none, none, none, none]) X (dk D_Rf_giveText 9 rfl) (by decide) rfl ?_
  refine v_aload_n X (dk D_Rf_giveText 10 rfl) rfl ?_
  refine v_getI X (dk D_Rf_giveText 11 rfl) F_Rf_243 rfl rfl (hS.lt (by decide)) ?_
  rw [show gI g 1003 37 = nI (na r + f.2.1.length) from hC.1.2.1]
  refine v_iload X (dk D_Rf_giveText 12 rfl) rfl ?_
  refine v_isub X (dk D_Rf_giveText 13 rfl) ?_
  rw [pk_sub (by omega), Nat.add_sub_cancel_left]
  refine v_istore (lb := [some (.ref 1003), some (.int (nI A.length)), some (.int (nI (hl r).length)), some (.int (nI f.1.length)), some (.int (nI (na r))), some (.int (nI ((mT A).length + e.1.length))), some (.int (nI f.2.1.length)), none, none, none, none]) X (dk D_Rf_giveText 14 rfl) (by decide) rfl ?_
  refine v_iconst (v := nI 0) X (dk D_Rf_giveText 15 rfl) (by decide) ?_
  refine v_istore (lb := [some (.ref 1003), some (.int (nI A.length)), some (.int (nI (hl r).length)), some (.int (nI f.1.length)), some (.int (nI (na r))), some (.int (nI ((mT A).length + e.1.length))), some (.int (nI f.2.1.length)), some (.int (nI 0)), none, none, none]) X (dk D_Rf_giveText 16 rfl) (by decide) rfl ?_
  exact loop e.2.2.length e.2.2 0 g [] (Nat.le_refl _) rfl (by omega) (rs.rf g _ _) (by rw [List.append_nil]; exact hE) rfl
