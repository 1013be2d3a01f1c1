/-! sum: class and model. -/
theorem uL_back (h : Int32) : (uL h).toInt32 = h := by rw [toI_wN, wN_uL, nI_vN]
theorem t_sum {N kg : Nat} (hN : 20000 < N) {gn : Int32} {gf : Nat → Int32} {G : Nat → Nat} (hG : Rw 8000 kg gn gf G) : f_T_sum N gn gf = some (sumS G 0 kg) := by
  have es := s_sum hN hG (a := 0) (e := kg) (Nat.zero_le _) (Nat.le_refl _)
  rw [Nat.sub_zero, ← hG.1] at es
  have es : f_Sum_of N 8000 0 gn gn gf = some (sumS G 0 kg) := es
  unfold f_T_sum
  rw [j_T_sum_0, bd1_of (s_count _), bd1_of es]
theorem m_sum0 {N kg : Nat} (hN : 20000 < N) {win : Int32} {wif : Nat → Int32} {G : Nat → Nat} (hG : Mw kg win wif G) (wlf : Nat → Int64) : ∃ wl', f_Mo_sum N win wif wlf = some (sumS G 0 kg, wl') := by
  obtain ⟨wl', e2⟩ := m_sum hN (aL := 8000) (e := kg) (af := wif) (B := G) ⟨hG.2.1, by decide, hG.2.2⟩ (a := 0) (Nat.zero_le _) wlf
  rw [Nat.sub_zero, ← hG.1] at e2
  have e2 : f_Mo_sumOf N 8000 0 win wlf wif = some (uL (sumS G 0 kg), wl') := e2
  refine ⟨wl', ?_⟩
  unfold f_Mo_sum
  rw [j_Mo_sum_0, bd2_of e2, uL_back]
