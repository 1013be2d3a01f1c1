/-! A frame's row: the model, from the number on. -/
theorem rowEnd_ok {N fl m : Nat} (hN : 20000 < N) {x4 x6 wdn wfo wpn : Int32} {wdf : Nat → Int32} (wlf : Nat → Int64) (kh) {Q : Nat → Nat} {pf : Nat → Int32} (hm : m ≤ 8000) (hQ : ∀ j, j < m → Q j < 256 ∧ pf j = nI (Q j)) {b : Sq} {n : Int32} {f : Nat → Int32} (hb : b.1 < 800000) (h : Mp b n f) : ∃ f' wl', rowEnd N fl m x4 x6 wdn wfo wpn wdf wlf kh n f pf = kh (x6 + x4) wdn wfo (nI (if nI fl &&& (16 : Int32) = 0 then b else pushW b (vN (sumS Q 0 m))).1) wpn wdf f' pf wl' ∧ Mp (if nI fl &&& (16 : Int32) = 0 then b else pushW b (vN (sumS Q 0 m))) (nI (if nI fl &&& (16 : Int32) = 0 then b else pushW b (vN (sumS Q 0 m))).1) f' := by
  unfold rowEnd
  by_cases c : nI fl &&& (16 : Int32) = 0
  · rw [if_pos c, if_pos c, j_Mo_frame_342]
    obtain ⟨rfl, -⟩ := id h
    exact ⟨f, wlf, rfl, h⟩
  · rw [if_neg c, if_neg c]
    obtain ⟨wl', e1⟩ := m_sum hN (aL := 9000) (e := m) (af := pf) (B := Q) ⟨by omega, by decide, hQ⟩ (a := 0) (Nat.zero_le _) wlf
    rw [Nat.sub_zero] at e1
    obtain ⟨f', e2, g⟩ := m_num4 hN (uL (sumS Q 0 m)) (w := vN (sumS Q 0 m)) (by rw [wN_uL]) h (by omega)
    have e1 : f_Mo_sumOf N 9000 0 (nI m) wlf pf = some (uL (sumS Q 0 m), wl') := e1
    rw [bd2_of e1, bd2_of e2, j_Mo_frame_342]
    exact ⟨f', wl', rfl, g⟩
theorem lits_sum (Q : Nat → Nat) (i b w : Nat) (s : Sq) (hib : i ≤ b) : sumS (lits Q i b (pushW s w)).2 (s.1 + 4) ((lits Q i b (pushW s w)).1 - (s.1 + 4)) = sumS Q i (b - i) := by
  have e1 : (lits Q i b (pushW s w)).1 - (s.1 + 4) = b - i := by
    show s.1 + 4 + (b - i) - (s.1 + 4) = b - i
    omega
  rw [e1]
  refine sum_shift (fun j hj => ?_)
  show catB (pushW s w).2 (s.1 + 4) Q i (s.1 + 4 + j) = Q (i + j)
  unfold catB
  rw [if_neg (by omega)]
  congr 1
  omega
theorem m_row0 {N fl a b : Nat} (hN : 20000 < N) {x4 wdn wfo : Int32} {wif wdf pf : Nat → Int32} (wlf : Nat → Int64) (kh) {G : Nat → Nat} {P s : Sq} {n : Int32} {f : Nat → Int32} (hP : P.1 < b - a) (hb : b ≤ 8000) (hpf : Mp P (nI P.1) pf) (hs : s.1 < 700000) (h : Mp s n f) : ∃ f' wl', j_Mo_frame_245 N (nI fl) x4 (nI a) 0 (nI P.1) wdn wfo n (nI P.1) wif wdf f pf wlf kh = kh (nI a + x4) wdn wfo (nI (rowP fl P G a b s).1) (nI P.1) wdf f' pf wl' ∧ Mp (rowP fl P G a b s) (nI (rowP fl P G a b s).1) f' := by
  have hQ : ∀ j, j < P.1 → P.2 j < 256 ∧ pf j = nI (P.2 j) := fun j hj => hpf.2 j hj (by omega)
  rw [j_Mo_frame_245, if_pos z00, j_Mo_frame_266, nI_l (by omega)]
  obtain ⟨f1, e1, g1⟩ := m_num4 hN (lN P.1) (w := P.1) (by rw [wN_lN (by omega)]) h (by omega)
  obtain ⟨f2, e2, g2⟩ := fr_loop0 (N := N) (fl := fl) (x4 := x4) (x6 := nI a) (wdn := wdn) (wfo := wfo) (wpn := nI P.1) (wif := wif) (wdf := wdf) (wlf := wlf) kh (m := P.1) (by omega) hQ P.1 N 0 _ _ f1 (by omega) (by omega) (by rw [pushW_1]; omega) g1
  have e2 : loop4 (b_Mo_frame_273 N (nI fl) x4 (nI a) 0 (nI P.1) wdn wfo (nI P.1) wif wdf wlf kh) N 0 (nI (pushW s P.1).1) f1 pf = _ := e2
  obtain ⟨f3, wl', e3, g3⟩ := rowEnd_ok (fl := fl) (x4 := x4) (x6 := nI a) (wdn := wdn) (wfo := wfo) (wpn := nI P.1) (wdf := wdf) hN wlf kh (m := P.1) (by omega) hQ (by show s.1 + 4 + (P.1 - 0) < _; omega) g2
  have eR : (if nI fl &&& (16 : Int32) = 0 then lits P.2 0 P.1 (pushW s P.1) else pushW (lits P.2 0 P.1 (pushW s P.1)) (vN (sumS P.2 0 P.1))) = rowP fl P G a b s := by
    unfold rowP bodyP
    rw [if_pos hP, lits_sum P.2 0 P.1 P.1 s (Nat.zero_le _), Nat.sub_zero]
  rw [eR] at e3 g3
  rw [bd2_of e1, e2, e3]
  exact ⟨f3, wl', rfl, g3⟩
theorem m_row1 {N fl a b kg : Nat} (hN : 20000 < N) {x4 wdn wfo wpn : Int32} {wif wdf pf : Nat → Int32} (wlf : Nat → Int64) (kh) {G : Nat → Nat} {P s : Sq} {n : Int32} {f : Nat → Int32} (hG : ∀ j, j < kg → G j < 256 ∧ wif j = nI (G j)) (hkg : kg ≤ 8000) (hab : a ≤ b) (hb : b ≤ kg) (hP : ¬ P.1 < b - a) (hs : s.1 < 700000) (h : Mp s n f) : ∃ f' pf' wl', j_Mo_frame_245 N (nI fl) x4 (nI a) 1 (nI (b - a)) wdn wfo n wpn wif wdf f pf wlf kh = kh (nI a + x4) wdn wfo (nI (rowP fl P G a b s).1) wpn wdf f' pf' wl' ∧ Mp (rowP fl P G a b s) (nI (rowP fl P G a b s).1) f' := by
  rw [j_Mo_frame_245, if_neg n10, j_Mo_frame_266, nI_l (by omega)]
  have en : (2147483648 : Int64) + lN (b - a) = lN (2147483648 + (b - a)) := lN_add 2147483648 (b - a)
  rw [en]
  obtain ⟨f1, e1, g1⟩ := m_num4 hN (lN (2147483648 + (b - a))) (w := 2147483648 + (b - a)) (by rw [wN_lN (by omega)]) h (by omega)
  obtain ⟨f2, pf', e2, g2, q2⟩ := fr_loop1 (N := N) (fl := fl) (x4 := x4) (wdn := wdn) (wfo := wfo) (wpn := wpn) (wdf := wdf) (wlf := wlf) kh hG hkg hab hb (b - a) N 0 _ _ f1 pf (by omega) (by omega) (by rw [pushW_1]; omega) g1 (fun j hj => by omega)
  have e2 : loop4 (b_Mo_frame_273 N (nI fl) x4 (nI a) 1 (nI (b - a)) wdn wfo wpn wif wdf wlf kh) N 0 (nI (pushW s (2147483648 + (b - a))).1) f1 pf = _ := e2
  rw [Nat.add_zero] at e2 g2
  obtain ⟨f3, wl', e3, g3⟩ := rowEnd_ok (fl := fl) (x4 := x4) (x6 := nI a) (wdn := wdn) (wfo := wfo) (wpn := wpn) (wdf := wdf) hN wlf kh (m := b - a) (Q := fun j => G (a + j)) (by omega) (fun j hj => ⟨(hG (a + j) (by omega)).1, q2 j hj⟩) (by show s.1 + 4 + (b - a) < _; omega) g2
  have es : sumS (fun j => G (a + j)) 0 (b - a) = sumS G a (b - a) := sum_shift (fun j _ => by show G (a + (0 + j)) = G (a + j); rw [Nat.zero_add])
  have eR : (if nI fl &&& (16 : Int32) = 0 then lits G a b (pushW s (2147483648 + (b - a))) else pushW (lits G a b (pushW s (2147483648 + (b - a)))) (vN (sumS (fun j => G (a + j)) 0 (b - a)))) = rowP fl P G a b s := by
    unfold rowP bodyP
    rw [if_neg hP, lits_sum G a b _ s hab, es]
  rw [eR] at e3 g3
  rw [bd2_of e1, e2, e3]
  exact ⟨f3, pf', wl', rfl, g3⟩
