/-! A frame's head. -/
def s0 : Sq := (0, fun _ => 0)
def hd1 (fl k : Nat) : Sq := push (push (pushW s0 407708164) fl) (16 * k)
def hd2 (fl k kg : Nat) : Sq := if nI fl &&& (8 : Int32) = 0 then hd1 fl k else pushW (pushW (hd1 fl k) kg) 0
def hd3 (fl k kg : Nat) (key : Int32) : Sq := if nI fl &&& (1 : Int32) = 0 then hd2 fl k kg else pushW (hd2 fl k kg) (vN key)
def headS (fl k kg : Nat) (key : Int32) : Sq := push (hd3 fl k kg key) (vN (sumS (hd3 fl k kg key).2 4 ((hd3 fl k kg key).1 - 4)) / 2 ^ 8 % 256)
theorem hd1_ct (fl k : Nat) : (hd1 fl k).1 = 6 := rfl
theorem hd2_ct (fl k kg : Nat) : 6 ≤ (hd2 fl k kg).1 ∧ (hd2 fl k kg).1 ≤ 14 := by
  unfold hd2
  split
  · rw [hd1_ct]; omega
  · rw [pushW_1, pushW_1, hd1_ct]; omega
theorem hd3_ct (fl k kg : Nat) (key : Int32) : 6 ≤ (hd3 fl k kg key).1 ∧ (hd3 fl k kg key).1 ≤ 18 := by
  have := hd2_ct fl k kg
  unfold hd3
  split
  · omega
  · rw [pushW_1]; omega
theorem Out.ok {s : Sq} {r : Option (Int32 × Int32 × (Nat → Int32))} (h : Out s r) (hs : s.1 ≤ 8000) : ∃ f', r = some (1, nI s.1, f') ∧ Rw 8000 s.1 (nI s.1) f' s.2 := by
  rcases h with ⟨_, f', e, g⟩ | ⟨h1, _⟩
  · exact ⟨f', e, g⟩
  · omega
theorem s_head133 {N : Nat} (hN : 20000 < N) {s : Sq} {tf : Nat → Int32} (h : Rw 8000 s.1 (nI s.1) tf s.2) (hs : 4 ≤ s.1) (hs2 : s.1 ≤ 100) : ∃ f', j_FW_addHead_133 N 1 4 (nI s.1) tf = some (1, nI (s.1 + 1), f') ∧ Rw 8000 (s.1 + 1) (nI (s.1 + 1)) f' (push s (vN (sumS s.2 4 (s.1 - 4)) / 2 ^ 8 % 256)).2 := by
  have e1 : f_Sum_of N 8000 4 (nI s.1) (nI s.1) tf = some (sumS s.2 4 (s.1 - 4)) := s_sum hN h (a := 4) (e := s.1) hs (Nat.le_refl _)
  have o := o_add h (sumS s.2 4 (s.1 - 4) >>> ((8 : Int32) &&& 31))
  rw [show lo8 (sumS s.2 4 (s.1 - 4) >>> ((8 : Int32) &&& 31)) = vN (sumS s.2 4 (s.1 - 4)) / 2 ^ 8 % 256 from lo8_sr (k := 8) (by decide)] at o
  obtain ⟨f', e2, g⟩ := o.one.ok (by show s.1 + 1 ≤ 8000; omega)
  refine ⟨f', ?_, g⟩
  rw [j_FW_addHead_133, if_neg (by decide), bd1_of (s_count _), bd1_of e1]
  exact e2
theorem s_head {N fl k kg : Nat} {key gn tn : Int32} {tf : Nat → Int32} {T : Nat → Nat} (hN : 20000 < N) (hfl : fl < 256) (hk : k < 16) (hg : gn = nI kg) (hkg : kg ≤ 8000) (hT : Rw 8000 0 tn tf T) : ∃ f', f_FW_addHead N (nI fl) (nI k) key gn tn tf = some (1, nI (headS fl k kg key).1, f') ∧ Rw 8000 (headS fl k kg key).1 (nI (headS fl k kg key).1) f' (headS fl k kg key).2 := by
  have h0 : Rw 8000 s0.1 tn tf s0.2 := hT.congr (fun j hj => by omega)
  obtain ⟨f1, e1, g1⟩ := (o_word h0 (407708164 : Int32)).ok (by show 4 ≤ 8000; decide)
  rw [show vN (407708164 : Int32) = 407708164 from vN_nI 407708164] at e1 g1
  obtain ⟨f2, e2, g2⟩ := (o_add g1 (nI fl)).ok (by show 5 ≤ 8000; decide)
  rw [lo8_nI hfl] at e2 g2
  obtain ⟨f3, e3, g3⟩ := (o_add g2 (nI (16 * k))).ok (by show 6 ≤ 8000; decide)
  rw [lo8_nI (by omega)] at e3 g3
  have e3 : f_Row_add 8000 ((16 : Int32) * nI k) (nI (push (pushW s0 407708164) fl).1) f2 = some (1, nI (hd1 fl k).1, f3) := by rw [show (16 : Int32) * nI k = nI (16 * k) from pk_mul 16 k]; exact e3
  have g3 : Rw 8000 (hd1 fl k).1 (nI (hd1 fl k).1) f3 (hd1 fl k).2 := g3
  have c2 := hd2_ct fl k kg
  have c3 := hd3_ct fl k kg key
  have k104 : ∀ f, Rw 8000 (hd2 fl k kg).1 (nI (hd2 fl k kg).1) f (hd2 fl k kg).2 → ∃ f', j_FW_addHead_104 N (nI fl) key 1 4 (nI (hd2 fl k kg).1) f = some (1, nI (headS fl k kg key).1, f') ∧ Rw 8000 (headS fl k kg key).1 (nI (headS fl k kg key).1) f' (headS fl k kg key).2 := by
    intro f hf
    rw [j_FW_addHead_104]
    by_cases c : nI fl &&& (1 : Int32) = 0
    · rw [if_pos c]
      have e : hd3 fl k kg key = hd2 fl k kg := by unfold hd3; rw [if_pos c]
      have := s_head133 hN hf (by omega) (by omega)
      unfold headS
      rw [e]
      exact this
    · rw [if_neg c, if_neg (by decide)]
      have e : hd3 fl k kg key = pushW (hd2 fl k kg) (vN key) := by unfold hd3; rw [if_neg c]
      obtain ⟨f5, e5, g5⟩ := (o_word hf key).ok (by rw [pushW_1]; omega)
      have := s_head133 hN g5 (by rw [pushW_1]; omega) (by rw [pushW_1]; omega)
      rw [bd3_of e5, if_neg (by decide), j_FW_addHead_131]
      unfold headS
      rw [e]
      exact this
  unfold f_FW_addHead
  rw [j_FW_addHead_0, bd3_of e1, bd1_of (s_count _), if_neg (by decide), bd3_of e2, if_neg (by decide), bd3_of e3, if_neg (by decide), j_FW_addHead_55]
  by_cases c : nI fl &&& (8 : Int32) = 0
  · have e : hd2 fl k kg = hd1 fl k := by unfold hd2; rw [if_pos c]
    rw [if_pos c]
    rw [← e] at g3 ⊢
    exact k104 f3 g3
  · have e : hd2 fl k kg = pushW (pushW (hd1 fl k) kg) 0 := by unfold hd2; rw [if_neg c]
    obtain ⟨f5, e5, g5⟩ := (o_word g3 (nI kg)).ok (by rw [pushW_1, hd1_ct]; omega)
    rw [vN_nI, Nat.mod_eq_of_lt (by omega)] at e5 g5
    obtain ⟨f6, e6, g6⟩ := (o_word g5 (0 : Int32)).ok (by rw [pushW_1, pushW_1, hd1_ct]; omega)
    rw [show vN (0 : Int32) = 0 from rfl, ← e] at e6 g6
    rw [if_neg c, if_neg (by decide), bd1_of (s_count _), hg, bd3_of e5, if_neg (by decide), bd3_of e6, if_neg (by decide), j_FW_addHead_102]
    exact k104 f6 g6
