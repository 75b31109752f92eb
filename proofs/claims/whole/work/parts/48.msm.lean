/-! chains and meanings are kept where their cells are -/
theorem CW.sm {g k : mu_T} {c rb rn N fr : Nat} {S fl U : List Nat} {ch : Nat → List Nat} (w : CW g c rb rn N S ch fl fr) (z : sm g k U) (hc : c ∉ U) (hn : rn ∉ U) (hS : ∀ h ∈ S, h ∉ U) : CW k c rb rn N S ch fl fr := by
  obtain ⟨w1, w2, w3, w4, w5, w6, w7, w8, w9, w10, w11, w12, w13⟩ := w
  exact ⟨w1.sm z, w2, w3, fun h hh => (w4 h hh).keep z (hS h hh) (fun p _ => z.I hn p), by rw [z.I hc]; exact w5, by rw [z.I hc]; exact lkf_same (fun p _ => z.I hn p) w6, by rw [z.I hc]; exact w7, w8, w9, w10, w11, w12, w13⟩
theorem bys_sm {g k : mu_T} {rb : Nat} {U ps : List Nat} (z : sm g k U) (hb : rb ∉ U) : bys k rb ps = bys g rb ps := by
  rw [bys, bys, show gI k rb = gI g rb from funext fun j => z.I hb j]
theorem MS.sm {g k : mu_T} {U : List Nat} {bk : Nat → List Nat} {sp : List Nat} {N T : Nat → List Int32} {B : Nat → Option Nat} {df db : Nat} (h : MS g bk sp N T B df db) (z : sm g k U) (hU : ∀ a, 25 ≤ a → a < 982 → a ∉ U) : MS k bk sp N T B df db := by
  obtain ⟨h1, h2, ⟨ch, fl, fr, hW, hN⟩, h4, h5, h6, h7, h8, h9, h10, h11⟩ := h
  have u25 := hU 25 (by decide) (by decide)
  refine ⟨by rw [z.I u25]; exact h1, by rw [z.I u25]; exact h2, ⟨ch, fl, fr, hW.sm z (hU 26 (by decide) (by decide)) (hU 28 (by decide) (by decide)) (fun a ha => ?_), fun i hi => ?_⟩, fun j hj => ?_, ?_, fun j hj i hi => ?_, fun i hi => ?_, h8, h9, h10, h11⟩
  · obtain ⟨i, hi, e⟩ := SM_of ha
    exact hU a (by omega) (by omega)
  · rw [bys_sm z (hU 27 (by decide) (by decide)), bys_sm z (hU 27 (by decide) (by decide))]; exact hN i hi
  · rw [z.R (hU 29 (by decide) (by decide))]
    exact rlk_same (fun i hi => z.R (hU _ (by omega) (by have := (h6 j hj i hi).1; omega)) 4) (h4 j hj)
  · rw [z.R u25]
    exact rlk_same (fun i hi => z.R (hU _ (by omega) (by have := (h8 i hi).1; omega)) 4) h5
  · obtain ⟨j1, j2, j3⟩ := h6 j hj i hi
    exact ⟨j1, by rw [z.I (hU _ (by omega) (by omega))]; exact j2, j3⟩
  · rw [z.R (hU _ (by omega) (by omega))]; exact h7 i hi
