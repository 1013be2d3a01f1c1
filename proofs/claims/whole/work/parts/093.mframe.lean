/-! A frame's rows: the model's loop. -/
theorem rowS_ct (fl way : Nat) (H : Nat → Nat) (kh : Nat) (G : Nat → Nat) (a b : Nat) (s : Sq) : (rowS fl way H kh G a b s).1 ≤ s.1 + 8 + (b - a) := by
  have h : (bodyS fl way H kh G a b s).1 ≤ s.1 + 4 + (b - a) := by
    unfold bodyS
    split
    · show s.1 + 4 + ((partS fl way H kh G a b).1 - 0) ≤ _; omega
    · show s.1 + 4 + (b - a) ≤ _; omega
  unfold rowS
  split
  · omega
  · rw [pushW_1]; omega
/-- what a model's frame comes to -/
def MFr (S : Sq) (won : Int32) (wof : Nat → Int32) (res : Option (Int32 × Int32 × Int32 × Int32 × Int32 × Int32 × (Nat → Int32) × (Nat → Int32) × (Nat → Int32) × (Nat → Int32) × (Nat → Int64))) : Prop := ∃ (r won' c1 c2 c3 c4 : Int32) (wof' d1 d2 d3 : Nat → Int32) (l : Nat → Int64), res = some (r, won', c1, c2, c3, c4, wof', d1, d2, d3, l) ∧ ((S.1 ≤ 8000 ∧ r = nI S.1 ∧ Mw S.1 won' wof' S.2) ∨ (8000 < S.1 ∧ r = -1 ∧ won' = won ∧ wof' = wof))
theorem m_382 {N : Nat} (hN : 20000 < N) {S : Sq} (hS : S.1 < 1000000) {won wdn wfo wpn : Int32} {wof wdf f pf : Nat → Int32} {wlf : Nat → Int64} (h : Mp S (nI S.1) f) : MFr S won wof (j_Mo_frame_382 N won wdn wfo (nI S.1) wpn wof wdf f pf wlf) := by
  rw [j_Mo_frame_382]
  by_cases c : S.1 ≤ 8000
  · obtain ⟨f4, e4, h4⟩ := m_show (N := N) (won := won) (wof := wof) (aL := 9000) hN c (by omega) (by decide) (fun j hj => h.2 j hj (by omega))
    rw [bd3_of e4]
    exact ⟨_, _, _, _, _, _, _, _, _, _, _, rfl, Or.inl ⟨c, rfl, h4⟩⟩
  · rw [bd3_of (m_showNo (by omega) (by omega))]
    exact ⟨_, _, _, _, _, _, _, _, _, _, _, rfl, Or.inr ⟨by omega, rfl, rfl, rfl⟩⟩
theorem mf_loop {N fl kg kh way cut : Nat} (hN : 20010 < N) (hw : way ≤ 3) (hc1 : 1 ≤ cut) (hc8 : cut ≤ 8000) {win won whn : Int32} {wif wof whf : Nat → Int32} {G H : Nat → Nat} (hG : Mw kg win wif G) (hH : Mw kh whn whf H) : ∀ (m fuel F a : Nat) (s : Sq) (n wdn wfo wpn : Int32) (wdf f pf : Nat → Int32) (wlf : Nat → Int64), kg - a ≤ m → m < fuel → m < F → a ≤ 16000 → s.1 ≤ 19 + 9 * min a kg → Mp s n f → MFr (tailF fl G kg (rowsS fl way cut H kh G kg F a s)) won wof (loop9 (b_Mo_frame_134 N (nI fl) (nI cut) (nI way) win won whn wif wof whf) fuel (nI a) wdn wfo n wpn wdf f pf wlf) := by
  have hk := hG.2.1
  have hkh := hH.2.1
  intro m
  induction m with
  | zero =>
    intro fuel F a s n wdn wfo wpn wdf f pf wlf h1 h2 h3 ha hs h
    obtain ⟨fuel, rfl⟩ : ∃ z, fuel = z + 1 := ⟨fuel - 1, by omega⟩
    obtain ⟨F, rfl⟩ : ∃ z, F = z + 1 := ⟨F - 1, by omega⟩
    obtain ⟨f1, e1, g1⟩ := m_num4 (N := N) (by omega) (0 : Int64) (w := 0) (by decide) h (by omega)
    rw [loop9_s, b_Mo_frame_134, rowsS_s, if_pos (show kg ≤ a by omega), if_pos (show win ≤ nI a from by rw [hG.1]; exact nI_le (by omega) (by omega)), bd2_of e1]
    unfold tailF
    by_cases c : nI fl &&& (4 : Int32) = 0
    · rw [if_pos c, if_pos c]
      exact m_382 (by omega) (by rw [pushW_1]; omega) g1
    · obtain ⟨wl', e2⟩ := m_sum (N := N) (by omega) (aL := 8000) (e := kg) (af := wif) (B := G) ⟨hk, by decide, hG.2.2⟩ (a := 0) (Nat.zero_le _) wlf
      rw [Nat.sub_zero, ← hG.1] at e2
      have e2 : f_Mo_sumOf N 8000 0 win wlf wif = some (uL (sumS G 0 kg), wl') := e2
      obtain ⟨f2, e3, g2⟩ := m_num4 (N := N) (by omega) (uL (sumS G 0 kg)) (w := vN (sumS G 0 kg)) (by rw [wN_uL]) g1 (by rw [pushW_1]; omega)
      rw [if_neg c, if_neg c, bd2_of e2, bd2_of e3]
      exact m_382 (by omega) (by rw [pushW_1, pushW_1]; omega) g2
  | succ m ih =>
    intro fuel F a s n wdn wfo wpn wdf f pf wlf h1 h2 h3 ha hs h
    by_cases c0 : kg ≤ a
    · exact ih fuel F a s n wdn wfo wpn wdf f pf wlf (by omega) (by omega) (by omega) ha hs h
    obtain ⟨fuel, rfl⟩ : ∃ z, fuel = z + 1 := ⟨fuel - 1, by omega⟩
    obtain ⟨F, rfl⟩ : ∃ z, F = z + 1 := ⟨F - 1, by omega⟩
    have key : ∀ kh9, (∀ n' w2 w3 w4 d2 f' p2 l2, Mp (rowS fl way H kh G a (min kg (a + cut)) s) n' f' → MFr (tailF fl G kg (rowsS fl way cut H kh G kg F (a + cut) (rowS fl way H kh G a (min kg (a + cut)) s))) won wof (kh9 (nI (a + cut)) w2 w3 n' w4 d2 f' p2 l2)) → MFr (tailF fl G kg (rowsS fl way cut H kh G kg F (a + cut) (rowS fl way H kh G a (min kg (a + cut)) s))) won wof (j_Mo_frame_167 N (nI fl) (nI cut) (nI way) (nI a) (nI (min kg (a + cut))) whn wfo n wif whf wdf f pf wlf kh9) := by
      intro kh9 hkh9
      have k187 : ∀ (D : Nat → Nat) (ke : Nat) (d1 : Nat → Int32), Ma 16000 ke d1 D → ke + (min kg (a + cut) - a) ≤ 16000 → blockOf (catB D ke G a) ke (ke + (min kg (a + cut) - a)) way = partS fl way H kh G a (min kg (a + cut)) → MFr (tailF fl G kg (rowsS fl way cut H kh G kg F (a + cut) (rowS fl way H kh G a (min kg (a + cut)) s))) won wof (j_Mo_frame_187 N (nI fl) (nI cut) (nI way) (nI a) (nI (min kg (a + cut))) (nI ke) wfo n wif d1 f pf wlf kh9) := by
        intro D ke d1 hD hke hP
        obtain ⟨d2, e1, g1⟩ := m_append (N := N) (by omega) hG (a := a) (b := min kg (a + cut)) (by omega) (by omega) hD hke
        obtain ⟨w2, p2, e2, g2⟩ := m_writeBlock hN hw g1 (h := ke) (by omega) wfo pf
        have ct := block_ct (catB D ke G a) way hke (show ke ≤ ke + (min kg (a + cut) - a) by omega)
        rw [hP] at e2 g2 ct
        rw [j_Mo_frame_187, bd2_of e1, bd3_of e2, pk_sub (by omega), rowP_eq]
        by_cases x : (partS fl way H kh G a (min kg (a + cut))).1 < min kg (a + cut) - a
        · rw [if_pos (nI_lt x (by omega)), j_Mo_frame_226, if_pos z00]
          obtain ⟨f3, wl, e3, g3⟩ := m_row0 (N := N) (fl := fl) (x4 := nI cut) (wdn := nI (ke + (min kg (a + cut) - a))) (wfo := w2) (wif := wif) (wdf := d2) (by omega) wlf kh9 (G := G) x (by omega) g2 (by omega) h
          rw [e3, nI_add]
          exact hkh9 _ _ _ _ _ _ _ _ g3
        · rw [if_neg (nI_nlt (by omega) (by omega)), j_Mo_frame_226, if_neg n10, pk_sub (by omega)]
          obtain ⟨f3, p3, wl, e3, g3⟩ := m_row1 (N := N) (fl := fl) (x4 := nI cut) (wdn := nI (ke + (min kg (a + cut) - a))) (wfo := w2) (wpn := nI (partS fl way H kh G a (min kg (a + cut))).1) (wdf := d2) (pf := p2) (by omega) wlf kh9 hG.2.2 hk (by omega) (by omega) x (by omega) h
          rw [e3, nI_add]
          exact hkh9 _ _ _ _ _ _ _ _ g3
      obtain ⟨d0, e0, g0⟩ := m_begin (N := N) (by omega) hH wdf
      rw [j_Mo_frame_167, bd2_of e0]
      by_cases x : nI fl &&& (32 : Int32) = 0
      · obtain ⟨d1, e1, g1⟩ := m_append (N := N) (by omega) hG (a := 0) (b := a) (Nat.zero_le _) (by omega) g0 (by omega)
        rw [Nat.sub_zero] at e1 g1
        have e1 : f_Mo_append N 0 (nI a) (nI kh) wif d0 = some (nI (kh + a), d1) := e1
        rw [if_pos x, bd2_of e1]
        refine k187 _ (kh + a) d1 g1 (by omega) ?_
        unfold partS
        rw [if_pos x, cat_cat, show kh + a + (min kg (a + cut) - a) = kh + min kg (a + cut) from by omega]
      · rw [if_neg x]
        refine k187 _ kh d0 g0 (by omega) ?_
        unfold partS
        rw [if_neg x]
    have ct := rowS_ct fl way H kh G a (min kg (a + cut)) s
    have fin := key (loop9 (b_Mo_frame_134 N (nI fl) (nI cut) (nI way) win won whn wif wof whf) fuel) (fun n' w2 w3 w4 d2 f' p2 l2 g => ih fuel F (a + cut) _ n' w2 w3 w4 d2 f' p2 l2 (by omega) (by omega) (by omega) (by omega) (by omega) g)
    rw [loop9_s, b_Mo_frame_134, rowsS_s, if_neg c0, if_neg (show ¬ win ≤ nI a from by rw [hG.1]; exact nI_ge (by omega) (by omega)), nI_add]
    by_cases y : kg ≤ a + cut
    · rw [if_pos (show win ≤ nI (a + cut) from by rw [hG.1]; exact nI_le y (by omega))]
      rw [show min kg (a + cut) = kg from by omega, ← hG.1] at fin
      rw [show min kg (a + cut) = kg from by omega]
      exact fin
    · rw [if_neg (show ¬ win ≤ nI (a + cut) from by rw [hG.1]; exact nI_ge (by omega) (by omega))]
      rw [show min kg (a + cut) = a + cut from by omega] at fin ⊢
      exact fin
