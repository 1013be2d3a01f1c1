/-! A frame's head: the model. -/
theorem wN_i64 (x : Int32) : wN x.toInt64 % 2 ^ 32 = vN x := by
  unfold wN vN
  rw [Int32.toBitVec_toInt64]
  apply Nat.eq_of_testBit_eq
  intro i
  rw [Nat.testBit_mod_two_pow]
  by_cases hi : i < 32
  · simp only [hi, decide_true, Bool.true_and]
    show (BitVec.signExtend 64 x.toBitVec).getLsbD i = x.toBitVec.getLsbD i
    rw [BitVec.getLsbD_signExtend]
    simp [hi, show i < 64 from by omega]
  · simp only [hi, decide_false, Bool.false_and]
    exact (BitVec.getLsbD_of_ge x.toBitVec i (by omega)).symm
theorem wN_key (x : Int32) : wN (x.toInt64 &&& (4294967295 : Int64)) % 2 ^ 32 = vN x % 2 ^ 32 := by
  rw [wN_mask, wN_i64, Nat.mod_eq_of_lt (vN_lt x)]
theorem m_sumByte (h : Int32) : (sr64 (uL h) (8 : Int32) &&& (255 : Int64)).toInt32 = nI (vN h / 2 ^ 8 % 256) := by
  rw [toI_wN, show (8 : Int32) = nI 8 from rfl, wN_sr8 (by decide), wN_uL]
theorem Mp.arr {s : Sq} {n : Int32} {f : Nat → Int32} (h : Mp s n f) (hs : s.1 ≤ 9000) : Ma 9000 s.1 f s.2 := ⟨hs, by decide, fun j hj => h.2 j hj (by omega)⟩
theorem m_106 {N : Nat} (hN : 20000 < N) {s : Sq} {f : Nat → Int32} (h : Mp s (nI s.1) f) (h4 : 4 ≤ s.1) (hs : s.1 ≤ 100) (wlf : Nat → Int64) : ∃ wl' f', f_Mo_sumOf N 9000 4 (nI s.1) wlf f = some (uL (sumS s.2 4 (s.1 - 4)), wl') ∧ f_Mo_make ((sr64 (uL (sumS s.2 4 (s.1 - 4))) (8 : Int32) &&& (255 : Int64)).toInt32) (nI s.1) f = some (nI (s.1 + 1), f') ∧ Mp (push s (vN (sumS s.2 4 (s.1 - 4)) / 2 ^ 8 % 256)) (nI (s.1 + 1)) f' := by
  obtain ⟨wl', e1⟩ := m_sum hN (h.arr (by omega)) (a := 4) h4 wlf
  obtain ⟨f', e2, g⟩ := m_make h (by omega) (v := vN (sumS s.2 4 (s.1 - 4)) / 2 ^ 8 % 256) (Nat.mod_lt _ (by decide))
  exact ⟨wl', f', e1, by rw [m_sumByte]; exact e2, g⟩
