/-! unframe: the model. -/
theorem m_nxt {N kg kh most j c : Nat} {G H C : Nat → Nat} {win whn wpl wbn wnu : Int32} {wif whf wbf wcf : Nat → Int32} {wlf : Nat → Int64} (hN : 20010 < N) (hm : most ≤ 8000) (hG : Mw kg win wif G) (hH : Mw kh whn whf H) (hC : Ma 8000 c wcf C) (hc : c ≤ most) (hj : j ≤ kg) : ∃ wpl' wbn' wcn' wat' wnu' wbf' wcf' wlf', f_Mo_readNext N (nI most) win whn wpl wbn (nI c) (nI j) wnu wif whf wbf wcf wlf = some (nI (nxtF G H kg kh most j c C).1, wpl', wbn', wcn', wat', wnu', wbf', wcf', wlf') ∧ Fm kg most (j + 4) c (nxtF G H kg kh most j c C) wpl' wcn' wat' wcf' := by
  have hk := hG.2.1
  have hwn := hG.1
  subst hwn
  have eh : ∀ a, a ≤ 8010 → f_Mo_has (4 : Int32) (nI kg) (nI a) = some (if kg < a + 4 then 0 else 1) := fun a h => m_has (a := 4) (by omega) (by omega)
  unfold f_Mo_readNext
  rw [j_Mo_readNext_0, bd1_of (eh j (by omega)), nxtF]
  by_cases c1 : kg < j + 4
  · rw [if_pos c1, if_pos z00, if_pos c1, bd2_of (m_ffault _ _)]
    exact ⟨_, _, _, _, _, _, _, _, rfl, Fm.no (by decide) (by decide) rfl⟩
  have e1 := m_num4at (N := N) hN hG (j := j) (by omega)
  have hw := W4_ltM hG (j := j) (by omega)
  rw [if_neg c1, if_neg n10, if_neg c1, bd1_of e1, show nI j + (4 : Int32) = nI (j + 4) from nI_add j 4]
  generalize W4 G j = w at *
  have e133 : ¬ w / 16 = 25481893 → ∃ wpl' wbn' wcn' wat' wnu' wbf' wcf' wlf', j_Mo_readNext_133 N (nI most) (lN w) (nI kg) whn wpl wbn (nI c) (nI j) wnu wif whf wbf wcf wlf = some (nI (if w = 407708164 then frm G H kg kh most (j + 4) c C else if w / 16 = 25481893 then spr G kg (j + 4) c C else ((4, j, j, c, C) : Rfr)).1, wpl', wbn', wcn', wat', wnu', wbf', wcf', wlf') ∧ Fm kg most (j + 4) c (if w = 407708164 then frm G H kg kh most (j + 4) c C else if w / 16 = 25481893 then spr G kg (j + 4) c C else ((4, j, j, c, C) : Rfr)) wpl' wcn' wat' wcf' := by
    intro ns
    rw [j_Mo_readNext_133, show (407708164 : Int64) = lN 407708164 from rfl]
    by_cases c2 : w = 407708164
    · obtain ⟨wpl', wbn', wcn', wat', wnu', wbf', wcf', wlf', e, g⟩ := m_frm (N := N) (wpl := wpl) (wbn := wbn) (wnu := wnu) (wbf := wbf) (wlf := wlf) hN hm hG hH hC hc (j := j + 4) (by omega)
      rw [if_pos (by rw [lg_cmp_eq, c2]), if_pos c2, show nI j + (4 : Int32) = nI (j + 4) from nI_add j 4, bd9_of e]
      exact ⟨_, _, _, _, _, _, _, _, rfl, g⟩
    · rw [if_neg (by rw [lg_cmp_eq, lN_eq64 (by omega) (by decide)]; exact c2), if_neg c2, if_neg ns, bd2_of (m_ffault _ _)]
      exact ⟨_, _, _, _, _, _, _, _, rfl, Fm.no (by decide) (by decide) rfl⟩
  rw [show (407710288 : Int64) = lN 407710288 from rfl, show (407710303 : Int64) = lN 407710303 from rfl]
  by_cases d1 : w < 407710288
  · rw [if_pos (by rw [lg_cmp_lt, pk_lLT (by omega) (by decide)]; exact d1)]
    exact e133 (by omega)
  by_cases d2 : 407710303 < w
  · rw [if_neg (by rw [lg_cmp_lt, pk_lLT (by omega) (by decide)]; exact d1), if_pos (by rw [lg_cmp_gt, pk_lLT (by decide) (by omega)]; exact d2)]
    exact e133 (by omega)
  rw [if_neg (by rw [lg_cmp_lt, pk_lLT (by omega) (by decide)]; exact d1), if_neg (by rw [lg_cmp_gt, pk_lLT (by decide) (by omega)]; exact d2), if_neg (show ¬ w = 407708164 from by omega), if_pos (show w / 16 = 25481893 from by omega), bd1_of (eh (j + 4) (by omega)), spr]
  by_cases c3 : kg < j + 4 + 4
  · rw [if_pos c3, if_pos z00, if_pos c3, bd2_of (m_ffault _ _)]
    exact ⟨_, _, _, _, _, _, _, _, rfl, Fm.no (by decide) (by decide) rfl⟩
  have e2 := m_num4at (N := N) hN hG (j := j + 4) (by omega)
  have hw2 := W4_ltM hG (j := j + 4) (by omega)
  rw [if_neg c3, if_neg n10, if_neg c3, bd1_of e2, show nI (j + 4) + (4 : Int32) = nI (j + 4 + 4) from nI_add (j + 4) 4, pk_sub (by omega), nI_l (by omega), lN_i]
  generalize W4 G (j + 4) = v at *
  by_cases c4 : kg < j + 4 + 4 + v
  · rw [if_neg (by rw [lg_cmp_le, pk_lLE (by omega) (by omega)]; omega), if_pos c4, bd2_of (m_ffault _ _)]
    exact ⟨_, _, _, _, _, _, _, _, rfl, Fm.no (by decide) (by decide) rfl⟩
  · rw [if_pos (by rw [lg_cmp_le, pk_lLE (by omega) (by omega)]; omega), if_neg c4, nI_add]
    exact ⟨_, _, _, _, _, _, _, _, rfl, Fm.yes rfl rfl hC (by omega) (by omega) (Nat.le_refl _) hc⟩
theorem m_frames {N kg kh most : Nat} {G H : Nat → Nat} {win won whn : Int32} {wif wof whf : Nat → Int32} (hN : 20010 < N) (hm : most ≤ 8000) (hG : Mw kg win wif G) (hH : Mw kh whn whf H) : ∀ (m fuel F j c : Nat) (C : Nat → Nat) (wpl wbn wnu : Int32) (wbf wcf : Nat → Int32) (wlf : Nat → Int64), kg - j ≤ m → m + 1 < fuel → m < F → j ≤ kg → c ≤ most → Ma 8000 c wcf C → ∃ wpl' wbn' wcn' wat' wnu' wbf' wcf' wlf', loop9 (b_Mo_unframe_26 N (nI most) win won whn wif wof whf) fuel 0 wpl wbn (nI c) (nI j) wnu wbf wcf wlf = j_Mo_unframe_50 N (nI (frs G H kg kh most F j c C).1) win won wpl' wbn' wcn' wat' wnu' wof wbf' wcf' wlf' ∧ (frs G H kg kh most F j c C).1 ≤ 11 ∧ ((frs G H kg kh most F j c C).1 ≠ 0 → wpl' = nI (frs G H kg kh most F j c C).2.1) ∧ ((frs G H kg kh most F j c C).1 = 0 → (frs G H kg kh most F j c C).2.1 = kg ∧ wcn' = nI (frs G H kg kh most F j c C).2.2.2.1 ∧ Ma 8000 (frs G H kg kh most F j c C).2.2.2.1 wcf' (frs G H kg kh most F j c C).2.2.2.2) := by
  have hk := hG.2.1
  have hwn := hG.1
  subst hwn
  intro m
  induction m with
  | zero =>
    intro fuel F j c C wpl wbn wnu wbf wcf wlf h1 h2 h3 hj hc hC
    obtain ⟨fuel, rfl⟩ : ∃ z, fuel = z + 1 := ⟨fuel - 1, by omega⟩
    rw [frs_end (by omega), loop9_s, b_Mo_unframe_26, if_pos (nI_le (by omega) (by omega))]
    exact ⟨_, _, _, _, _, _, _, _, rfl, Nat.zero_le _, fun z => absurd rfl z, fun _ => ⟨rfl, rfl, hC⟩⟩
  | succ m ih =>
    intro fuel F j c C wpl wbn wnu wbf wcf wlf h1 h2 h3 hj hc hC
    by_cases cj : kg ≤ j
    · exact ih fuel F j c C wpl wbn wnu wbf wcf wlf (by omega) (by omega) (by omega) hj hc hC
    obtain ⟨fuel, rfl⟩ : ∃ z, fuel = z + 2 := ⟨fuel - 2, by omega⟩
    obtain ⟨F, rfl⟩ : ∃ z, F = z + 1 := ⟨F - 1, by omega⟩
    obtain ⟨wpl', wbn', wcn', wat', wnu', wbf', wcf', wlf', e, g⟩ := m_nxt (N := N) (wpl := wpl) (wbn := wbn) (wnu := wnu) (wbf := wbf) (wlf := wlf) hN hm hG hH hC hc hj
    rw [loop9_s, b_Mo_unframe_26, if_neg (nI_ge (by omega) (by omega)), if_pos z00, bd9_of e, frs_s, if_neg cj]
    generalize nxtF G H kg kh most j c C = R at *
    by_cases c5 : R.1 = 0
    · obtain ⟨g1, g2, g3, g4, g5, g6, g7⟩ := g.2.2 c5
      rw [if_pos c5, c5, g1, g2]
      exact ih (fuel + 1) F R.2.2.1 R.2.2.2.1 R.2.2.2.2 wpl' wbn' wnu' wbf' wcf' wlf' (by omega) (by omega) (by omega) g5 g7 g3
    · have hR := g.1
      have hn : ¬ nI R.1 = 0 := nI_ne0 (by omega) (by omega)
      refine ⟨wpl', wbn', wcn', wat', wnu', wbf', wcf', wlf', ?_, by rw [if_neg c5]; exact hR, by rw [if_neg c5]; exact g.2.1, fun z => by rw [if_neg c5] at z; exact absurd z c5⟩
      rw [if_neg c5, loop9_s, b_Mo_unframe_26]
      by_cases ca : nI kg ≤ wat'
      · rw [if_pos ca]
      · rw [if_neg ca, if_neg hn]
theorem m_unframeNo {N : Nat} {x win won whn wpl wbn wcn wat wnu : Int32} {wif wof whf wbf wcf : Nat → Int32} {wlf : Nat → Int64} (hx : x < 0 ∨ 8000 < x) : f_Mo_unframe N x win won whn wpl wbn wcn wat wnu wif wof whf wbf wcf wlf = some (-12, won, wpl, wbn, wcn, wat, wnu, wof, wbf, wcf, wlf) := by
  unfold f_Mo_unframe
  rw [j_Mo_unframe_0]
  by_cases a : x < 0
  · rw [if_pos a]
  · rw [if_neg a, if_neg (fun z => by
      have h1 := Int32.lt_iff_toInt_lt.mp (hx.resolve_left a)
      have h2 := Int32.le_iff_toInt_le.mp z
      omega)]
theorem m_unframe {N kg ku kh most : Nat} (hN : 20010 < N) (hm : most ≤ 8000) {win won whn wpl wbn wcn wat wnu : Int32} {wif wof whf wbf wcf : Nat → Int32} {wlf : Nat → Int64} {G U H : Nat → Nat} (hG : Mw kg win wif G) (hU : Mw ku won wof U) (hH : Mw kh whn whf H) : ∃ r won' wbn' wcn' wat' wnu' wof' wbf' wcf' wlf', f_Mo_unframe N (nI most) win won whn wpl wbn wcn wat wnu wif wof whf wbf wcf wlf = some (r, won', nI (unf G H kg kh most).2.1, wbn', wcn', wat', wnu', wof', wbf', wcf', wlf') ∧ (((unf G H kg kh most).1 = 0 ∧ r = nI (unf G H kg kh most).2.2.2.1 ∧ Mw (unf G H kg kh most).2.2.2.1 won' wof' (unf G H kg kh most).2.2.2.2) ∨ ((unf G H kg kh most).1 ≠ 0 ∧ r = -nI (unf G H kg kh most).1 ∧ won' = won ∧ wof' = wof)) := by
  have hk := hG.2.1
  obtain ⟨wpl', wbn', wcn', wat', wnu', wbf', wcf', wlf', e, g1, g2, g3⟩ := m_frames (N := N) (won := won) (wof := wof) hN hm hG hH 8000 N 20001 0 0 (fun _ => 0) wpl wbn wnu wbf wcf wlf (by omega) (by omega) (by omega) (Nat.zero_le _) (Nat.zero_le _) ⟨Nat.zero_le _, by decide, fun j hj => absurd hj (Nat.not_lt_zero j)⟩
  have e : loop9 (b_Mo_unframe_26 N (nI most) win won whn wif wof whf) N 0 wpl wbn 0 0 wnu wbf wcf wlf = j_Mo_unframe_50 N (nI (unf G H kg kh most).1) win won wpl' wbn' wcn' wat' wnu' wof wbf' wcf' wlf' := e
  have g1 : (unf G H kg kh most).1 ≤ 11 := g1
  have g2 : (unf G H kg kh most).1 ≠ 0 → wpl' = nI (unf G H kg kh most).2.1 := g2
  have g3 : (unf G H kg kh most).1 = 0 → (unf G H kg kh most).2.1 = kg ∧ wcn' = nI (unf G H kg kh most).2.2.2.1 ∧ Ma 8000 (unf G H kg kh most).2.2.2.1 wcf' (unf G H kg kh most).2.2.2.2 := g3
  unfold f_Mo_unframe
  rw [j_Mo_unframe_0, if_neg (nI_pos (by omega)), if_pos (show nI most ≤ 8000 from nI_le (b := 8000) hm (by decide)), e]
  generalize unf G H kg kh most = R at *
  by_cases c : R.1 = 0
  · obtain ⟨q1, q2, q3⟩ := g3 c
    obtain ⟨f', e4, h5⟩ := m_show (N := N) (aL := 8000) (k := R.2.2.2.1) (won := won) (wof := wof) (by omega) q3.1 q3.1 (by decide) q3.2.2
    rw [j_Mo_unframe_50, if_pos (show nI R.1 ≤ 0 from by rw [c]; decide), q2, bd3_of e4, q1, hG.1]
    exact ⟨_, _, _, _, _, _, _, _, _, _, rfl, Or.inl ⟨c, rfl, h5⟩⟩
  · rw [j_Mo_unframe_50, if_neg (show ¬ nI R.1 ≤ 0 from nI_nle (by omega) (by omega)), g2 c]
    exact ⟨_, _, _, _, _, _, _, _, _, _, rfl, Or.inr ⟨c, rfl, rfl, rfl⟩⟩
