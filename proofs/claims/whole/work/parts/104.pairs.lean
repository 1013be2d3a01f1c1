/-! Class and model side by side: one call. -/
def Tw (n : Int32) (f : Nat → Int32) (n' : Int32) (f' : Nat → Int32) : Prop := ∃ k B, Rw 8000 k n f B ∧ Mw k n' f' B
theorem n1_0 {y : Int32} (h : ¬ y < 1) : ¬ y < 0 := fun z => h (Int32.lt_trans z (by decide))
theorem n4_0 {y : Int32} (h : ¬ y < 4) : ¬ y < 0 := fun z => h (Int32.lt_trans z (by decide))
theorem p_write {N : Nat} (hN : 20010 < N) {gn win : Int32} {gf wif : Nat → Int32} (h : Tw gn gf win wif) (x : Int64) (y : Int32) : ∃ r gn' gf' win' wif', f_T_write N x y gn gf = some (r, gn', gf') ∧ f_Mo_write N x y win wif = some (r, win', wif') ∧ Tw gn' gf' win' wif' := by
  obtain ⟨k, B, h1, h2⟩ := h
  by_cases a : y < 1
  · exact ⟨_, _, _, _, _, t_writeNo h1 x (Or.inl a), m_writeNo h2 x (Or.inl a), k, B, h1, h2⟩
  by_cases b : 8 < y
  · exact ⟨_, _, _, _, _, t_writeNo h1 x (Or.inr (Or.inl b)), m_writeNo h2 x (Or.inr (Or.inl b)), k, B, h1, h2⟩
  obtain ⟨m, hm, rfl⟩ := nI_of (n1_0 a)
  have m1 : 1 ≤ m := Nat.le_of_not_lt (fun z => a (nI_lt (b := 1) z (by decide)))
  have m8 : m ≤ 8 := Nat.le_of_not_lt (fun z => b (nI_lt (a := 8) z hm))
  by_cases c : k + m ≤ 8000
  · obtain ⟨f1, e1, g1⟩ := t_write (N := N) (by omega) h1 x m1 m8 c
    obtain ⟨f2, e2, g2⟩ := m_write (N := N) (by omega) h2 x m1 m8 c
    exact ⟨_, _, _, _, _, e1, e2, _, _, g1, g2⟩
  · exact ⟨_, _, _, _, _, t_writeNo h1 x (Or.inr (Or.inr ⟨m, m8, rfl, by omega⟩)), m_writeNo h2 x (Or.inr (Or.inr ⟨m, m8, rfl, by omega⟩)), k, B, h1, h2⟩
theorem p_again {N : Nat} (hN : 20010 < N) {gn win : Int32} {gf wif : Nat → Int32} (h : Tw gn gf win wif) (x y : Int32) : ∃ r gn' gf' win' wif', f_T_again N x y gn gf = some (r, gn', gf') ∧ f_Mo_again N x y win wif = some (r, win', wif') ∧ Tw gn' gf' win' wif' := by
  obtain ⟨k, B, h1, h2⟩ := h
  have hk := h1.2.1
  by_cases d : againNo k x y
  · exact ⟨_, _, _, _, _, t_againNo h1 d, m_againNo h2 d, k, B, h1, h2⟩
  have a : ¬ x < 1 := fun z => d (Or.inl z)
  have b : ¬ nI k < x := fun z => d (Or.inr (Or.inl z))
  have c : ¬ y < 0 := fun z => d (Or.inr (Or.inr (Or.inl z)))
  obtain ⟨m, hm, rfl⟩ := nI_of (n1_0 a)
  obtain ⟨n, hn, rfl⟩ := nI_of c
  have m1 : 1 ≤ m := Nat.le_of_not_lt (fun z => a (nI_lt (b := 1) z (by decide)))
  have m8 : m ≤ k := Nat.le_of_not_lt (fun z => b (nI_lt z hm))
  have e : k + m * n ≤ 8000 := Nat.le_of_not_lt (fun z => d (Or.inr (Or.inr (Or.inr ⟨m, n, by omega, hn, rfl, rfl, z⟩))))
  obtain ⟨f1, e1, g1⟩ := t_again (N := N) (by omega) h1 m1 m8 hn e
  obtain ⟨f2, e2, g2⟩ := m_again (N := N) (by omega) h2 m1 m8 hn e
  exact ⟨_, _, _, _, _, e1, e2, _, _, g1, g2⟩
theorem p_clear {gn win : Int32} {gf wif : Nat → Int32} (h : Tw gn gf win wif) : ∃ gn' win', f_T_clear gn = some gn' ∧ f_Mo_clear = some win' ∧ Tw gn' gf win' wif := by
  obtain ⟨k, B, h1, h2⟩ := h
  obtain ⟨e, g⟩ := s_cut0 h1
  refine ⟨0, 0, ?_, ?_, 0, B, g, rfl, Nat.zero_le _, fun j hj => absurd hj (Nat.not_lt_zero j)⟩
  · unfold f_T_clear
    rw [j_T_clear_0, bd1_of e]
  · unfold f_Mo_clear
    rw [j_Mo_clear_0]
theorem p_turn {N : Nat} (hN : 20010 < N) {gn win un won : Int32} {gf wif uf wof : Nat → Int32} (h : Tw gn gf win wif) (hu : Tw un uf won wof) : ∃ gn' gf' win' wif', f_T_turn gn gf un uf = some (gn', gf') ∧ f_Mo_turn N won wif wof = some (win', wif') ∧ Tw gn' gf' win' wif' := by
  obtain ⟨k, B, h1, h2⟩ := h
  obtain ⟨ku, U, u1, u2⟩ := hu
  obtain ⟨f1, e1, g1⟩ := s_become h1 u1 u1.2.1
  obtain ⟨f2, e2, g2⟩ := m_turn (N := N) (by omega) wif u2
  refine ⟨_, _, _, _, ?_, e2, _, _, g1, g2⟩
  unfold f_T_turn
  rw [j_T_turn_0, bd2_of e1]
theorem p_remember {N : Nat} (hN : 20010 < N) {gn win hsn whn : Int32} {gf wif hsf whf : Nat → Int32} (h : Tw gn gf win wif) (hh : Tw hsn hsf whn whf) : ∃ gn' hsn' hsf' win' whn' whf', f_T_remember gn gf hsn hsf = some (gn', hsn', hsf') ∧ f_Mo_remember N win wif whf = some (win', whn', whf') ∧ Tw gn' gf win' wif ∧ Tw hsn' hsf' whn' whf' := by
  obtain ⟨k, B, h1, h2⟩ := h
  obtain ⟨ku, U, u1, u2⟩ := hh
  obtain ⟨f1, e1, g1⟩ := s_become u1 h1 h1.2.1
  obtain ⟨f2, e2, g2⟩ := m_remember (N := N) (by omega) whf h2
  obtain ⟨e, g⟩ := s_cut0 h1
  refine ⟨_, _, _, _, _, _, ?_, e2, ⟨0, B, g, rfl, Nat.zero_le _, fun j hj => absurd hj (Nat.not_lt_zero j)⟩, _, _, g1, g2⟩
  unfold f_T_remember
  rw [j_T_remember_0, bd2_of e1, bd1_of e]
theorem p_block {N : Nat} (hN : 20010 < N) {gn win un won hsn whn tn mc ms ml dn wdn wfo wpn : Int32} {gf wif uf wof hsf whf tf df laf eaf wdf wpf : Nat → Int32} (x : Int32) (h : Tw gn gf win wif) (hu : Tw un uf won wof) (hh : Tw hsn hsf whn whf) (hk : Wk tn tf dn df) : ∃ r un' uf' tn' tf' mc' ms' ml' dn' df' laf' eaf' won' wdn' wfo' wpn' wof' wdf' wpf', f_T_block N x gn gf un uf hsn hsf tn tf mc ms ml dn df laf eaf = some (r, un', uf', tn', tf', mc', ms', ml', dn', df', laf', eaf') ∧ f_Mo_block N x win won whn wdn wfo wpn wif wof whf wdf wpf = some (r, won', wdn', wfo', wpn', wof', wdf', wpf') ∧ Tw un' uf' won' wof' ∧ Wk tn' tf' dn' df' := by
  obtain ⟨kg, G, h1, h2⟩ := h
  obtain ⟨ku, U, u1, u2⟩ := id hu
  obtain ⟨kh, H, i1, i2⟩ := hh
  by_cases a : x < 0 ∨ 3 < x
  · exact ⟨_, _, _, _, _, _, _, _, _, _, _, _, _, _, _, _, _, _, _, t_blockNo a, m_blockNo a, hu, hk⟩
  obtain ⟨w, hw, rfl⟩ := nI_of (fun z => a (Or.inl z))
  have w3 : w ≤ 3 := Nat.le_of_not_lt (fun z => a (Or.inr (nI_lt (a := 3) z hw)))
  obtain ⟨r, un', uf', tn', tf', mc', ms', ml', dn', df', laf', eaf', e1, q1, q2⟩ := t_block (N := N) (mc := mc) (ms := ms) (ml := ml) (laf := laf) (eaf := eaf) hN w3 h1 u1 i1 hk
  obtain ⟨r2, won', wdn', wfo', wpn', wof', wdf', wpf', e2, q3⟩ := m_block (N := N) (wdn := wdn) (wfo := wfo) (wpn := wpn) (wdf := wdf) (wpf := wpf) hN w3 h2 u2 i2
  have er : r2 = r ∧ Tw un' uf' won' wof' := by
    rcases q2 with ⟨a1, a2, a3⟩ | ⟨a1, a2, a3, a4⟩
    · rcases q3 with ⟨b1, b2, b3⟩ | ⟨b1, b2, b3, b4⟩
      · exact ⟨by rw [a2, b2], _, _, a3, b3⟩
      · omega
    · rcases q3 with ⟨b1, b2, b3⟩ | ⟨b1, b2, b3, b4⟩
      · omega
      · exact ⟨by rw [a2, b2], by rw [a3, a4, b3, b4]; exact hu⟩
  rw [er.1] at e2
  exact ⟨_, _, _, _, _, _, _, _, _, _, _, _, _, _, _, _, _, _, _, e1, e2, er.2, q1⟩
theorem p_unblock {N : Nat} (hN : 20010 < N) {xp gn win un won hsn whn tn b1 b2 b3 b4 b5 b6 wpl wbn wat wnu : Int32} {gf wif uf wof hsf whf tf wbf : Nat → Int32} (x : Int32) (h : Tw gn gf win wif) (hu : Tw un uf won wof) (hh : Tw hsn hsf whn whf) (hT : ∃ k B, Rw 8000 k tn tf B) (hp : xp = wpl) : ∃ r xp' un' uf' tn' tf' c1 c2 c3 c4 c5 c6 won' wbn' wat' wnu' wof' wbf', f_T_unblock N x xp gn gf un uf hsn hsf tn tf b1 b2 b3 b4 b5 b6 = some (r, xp', un', uf', tn', tf', c1, c2, c3, c4, c5, c6) ∧ f_Mo_unblock N x win won whn wpl wbn wat wnu wif wof whf wbf = some (r, won', xp', wbn', wat', wnu', wof', wbf') ∧ Tw un' uf' won' wof' ∧ ∃ k B, Rw 8000 k tn' tf' B := by
  obtain ⟨kg, G, h1, h2⟩ := h
  obtain ⟨ku, U, u1, u2⟩ := id hu
  obtain ⟨kh, H, i1, i2⟩ := hh
  by_cases a : x < 0 ∨ 8000 < x
  · subst hp
    exact ⟨_, _, _, _, _, _, _, _, _, _, _, _, _, _, _, _, _, _, t_unblockNo a, m_unblockNo a, hu, hT⟩
  obtain ⟨w, hw, rfl⟩ := nI_of (fun z => a (Or.inl z))
  have w3 : w ≤ 8000 := Nat.le_of_not_lt (fun z => a (Or.inr (nI_lt (a := 8000) z hw)))
  obtain ⟨r, un', uf', tn', tf', c1, c2, c3, c4, c5, c6, e1, q1, q2⟩ := t_unblock (N := N) (xp := xp) (b1 := b1) (b2 := b2) (b3 := b3) (b4 := b4) (b5 := b5) (b6 := b6) hN w3 h1 u1 i1 hT
  obtain ⟨r2, won', wbn', wat', wnu', wof', wbf', e2, q3⟩ := m_unblock (N := N) (wpl := wpl) (wbn := wbn) (wat := wat) (wnu := wnu) (wbf := wbf) hN w3 h2 u2 i2
  have er : r2 = r ∧ Tw un' uf' won' wof' := by
    rcases q2 with ⟨a1, a2, a3⟩ | ⟨a1, a2, a3, a4⟩
    · rcases q3 with ⟨b1, b2, b3⟩ | ⟨b1, b2, b3, b4⟩
      · exact ⟨by rw [a2, b2], _, _, a3, b3⟩
      · exact absurd a1 b1
    · rcases q3 with ⟨b1, b2, b3⟩ | ⟨b1, b2, b3, b4⟩
      · exact absurd b1 a1
      · exact ⟨by rw [a2, b2], by rw [a3, a4, b3, b4]; exact hu⟩
  rw [er.1] at e2
  exact ⟨_, _, _, _, _, _, _, _, _, _, _, _, _, _, _, _, _, _, e1, e2, er.2, q1⟩
theorem p_unframe {N : Nat} (hN : 20010 < N) {xp gn win un won hsn whn tn b1 b2 b3 b4 b5 b6 q1 q2 q3 q4 q5 q6 q7 wpl wbn wcn wat wnu : Int32} {gf wif uf wof hsf whf tf wbf wcf : Nat → Int32} {wlf : Nat → Int64} (x : Int32) (h : Tw gn gf win wif) (hu : Tw un uf won wof) (hh : Tw hsn hsf whn whf) (hT : ∃ k B, Rw 8000 k tn tf B) (hp : xp = wpl) : ∃ r xp' un' uf' tn' tf' c1 c2 c3 c4 c5 c6 p1 p2 p3 p4 p5 p6 p7 won' wbn' wcn' wat' wnu' wof' wbf' wcf' wlf', f_T_unframe N x xp gn gf un uf hsn hsf tn tf b1 b2 b3 b4 b5 b6 q1 q2 q3 q4 q5 q6 q7 = some (r, xp', un', uf', tn', tf', c1, c2, c3, c4, c5, c6, p1, p2, p3, p4, p5, p6, p7) ∧ f_Mo_unframe N x win won whn wpl wbn wcn wat wnu wif wof whf wbf wcf wlf = some (r, won', xp', wbn', wcn', wat', wnu', wof', wbf', wcf', wlf') ∧ Tw un' uf' won' wof' ∧ ∃ k B, Rw 8000 k tn' tf' B := by
  obtain ⟨kg, G, h1, h2⟩ := h
  obtain ⟨ku, U, u1, u2⟩ := id hu
  obtain ⟨kh, H, i1, i2⟩ := hh
  by_cases a : x < 0 ∨ 8000 < x
  · subst hp
    exact ⟨_, _, _, _, _, _, _, _, _, _, _, _, _, _, _, _, _, _, _, _, _, _, _, _, _, _, _, _, t_unframeNo a, m_unframeNo a, hu, hT⟩
  obtain ⟨w, hw, rfl⟩ := nI_of (fun z => a (Or.inl z))
  have w3 : w ≤ 8000 := Nat.le_of_not_lt (fun z => a (Or.inr (nI_lt (a := 8000) z hw)))
  obtain ⟨r, un', uf', tn', tf', c1, c2, c3, c4, c5, c6, p1, p2, p3, p4, p5, p6, p7, e1, y1, y2⟩ := t_unframe (N := N) (xp := xp) (b1 := b1) (b2 := b2) (b3 := b3) (b4 := b4) (b5 := b5) (b6 := b6) (q1 := q1) (q2 := q2) (q3 := q3) (q4 := q4) (q5 := q5) (q6 := q6) (q7 := q7) hN w3 h1 u1 i1 hT
  obtain ⟨r2, won', wbn', wcn', wat', wnu', wof', wbf', wcf', wlf', e2, y3⟩ := m_unframe (N := N) (wpl := wpl) (wbn := wbn) (wcn := wcn) (wat := wat) (wnu := wnu) (wbf := wbf) (wcf := wcf) (wlf := wlf) hN w3 h2 u2 i2
  have er : r2 = r ∧ Tw un' uf' won' wof' := by
    rcases y2 with ⟨a1, a2, a3⟩ | ⟨a1, a2, a3, a4⟩
    · rcases y3 with ⟨b1, b2, b3⟩ | ⟨b1, b2, b3, b4⟩
      · exact ⟨by rw [a2, b2], _, _, a3, b3⟩
      · exact absurd a1 b1
    · rcases y3 with ⟨b1, b2, b3⟩ | ⟨b1, b2, b3, b4⟩
      · exact absurd b1 a1
      · exact ⟨by rw [a2, b2], by rw [a3, a4, b3, b4]; exact hu⟩
  rw [er.1] at e2
  exact ⟨_, _, _, _, _, _, _, _, _, _, _, _, _, _, _, _, _, _, _, _, _, _, _, _, _, _, _, _, e1, e2, er.2, y1⟩
theorem p_frame {N : Nat} (hN : 20010 < N) {gn win un won hsn whn tn mc ms ml dn pkn wdn wfo wmn wpn : Int32} {gf wif uf wof hsf whf tf df laf eaf pkf wdf wmf wpf : Nat → Int32} {wlf : Nat → Int64} (x1 x2 x3 x4 x5 : Int32) (h : Tw gn gf win wif) (hu : Tw un uf won wof) (hh : Tw hsn hsf whn whf) (hk : Wk tn tf dn df) (hp : ∃ k B, Rw 8000 k pkn pkf B) : ∃ r un' uf' tn' tf' mc' ms' ml' dn' df' laf' eaf' pkn' pkf' won' wdn' wfo' wmn' wpn' wof' wdf' wmf' wpf' wlf', f_T_frame N x1 x2 x3 x4 x5 gn gf un uf hsn hsf tn tf mc ms ml dn df laf eaf pkn pkf = some (r, un', uf', tn', tf', mc', ms', ml', dn', df', laf', eaf', pkn', pkf') ∧ f_Mo_frame N x1 x2 x3 x4 x5 win won whn wdn wfo wmn wpn wif wof whf wdf wmf wpf wlf = some (r, won', wdn', wfo', wmn', wpn', wof', wdf', wmf', wpf', wlf') ∧ Tw un' uf' won' wof' ∧ Wk tn' tf' dn' df' ∧ ∃ k B, Rw 8000 k pkn' pkf' B := by
  obtain ⟨kg, G, h1, h2⟩ := h
  obtain ⟨ku, U, u1, u2⟩ := id hu
  obtain ⟨kh, H, i1, i2⟩ := hh
  by_cases a : frameNo x1 x2 x4 x5
  · exact ⟨_, _, _, _, _, _, _, _, _, _, _, _, _, _, _, _, _, _, _, _, _, _, _, _, t_frameNo a, m_frameNo a, hu, hk, hp⟩
  have a1 : areF x1 := Classical.byContradiction (fun z => a (Or.inl z))
  have a2 : ¬ x2 < 4 := fun z => a (Or.inr (Or.inl z))
  have a3 : ¬ 7 < x2 := fun z => a (Or.inr (Or.inr (Or.inl z)))
  have a4 : ¬ x4 < 1 := fun z => a (Or.inr (Or.inr (Or.inr (Or.inl z))))
  have a5 : ¬ 8000 < x4 := fun z => a (Or.inr (Or.inr (Or.inr (Or.inr (Or.inl z)))))
  have a6 : ¬ x5 < 0 := fun z => a (Or.inr (Or.inr (Or.inr (Or.inr (Or.inr (Or.inl z))))))
  have a7 : ¬ 3 < x5 := fun z => a (Or.inr (Or.inr (Or.inr (Or.inr (Or.inr (Or.inr z))))))
  obtain ⟨fl, f1, f2, rfl, f3⟩ := areF_nI a1
  obtain ⟨k, hk2, rfl⟩ := nI_of (n4_0 a2)
  obtain ⟨cut, hc2, rfl⟩ := nI_of (n1_0 a4)
  obtain ⟨way, hw2, rfl⟩ := nI_of a6
  have k4 : 4 ≤ k := Nat.le_of_not_lt (fun z => a2 (nI_lt (b := 4) z (by decide)))
  have k7 : k ≤ 7 := Nat.le_of_not_lt (fun z => a3 (nI_lt (a := 7) z hk2))
  have c1 : 1 ≤ cut := Nat.le_of_not_lt (fun z => a4 (nI_lt (b := 1) z (by decide)))
  have c8 : cut ≤ 8000 := Nat.le_of_not_lt (fun z => a5 (nI_lt (a := 8000) z hc2))
  have w3 : way ≤ 3 := Nat.le_of_not_lt (fun z => a7 (nI_lt (a := 3) z hw2))
  obtain ⟨r, un', uf', tn', tf', mc', ms', ml', dn', df', laf', eaf', pkn', pkf', e1, q1, q4, q2⟩ := t_frame (N := N) (key := x3) (mc := mc) (ms := ms) (ml := ml) (la := laf) (ea := eaf) hN (by omega) a1 k4 k7 c1 c8 w3 h1 u1 i1 hk hp
  obtain ⟨r2, won', d1, d2, d3, d4, wof', d5, d6, d7, l, e2, q3⟩ := m_frame (N := N) (key := x3) (wdn := wdn) (wfo := wfo) (wmn := wmn) (wpn := wpn) (wdf := wdf) (wmf := wmf) (wpf := wpf) (wlf := wlf) hN (show fl < 256 from by omega) a1 k4 k7 c1 c8 w3 h2 u2 i2
  have er : r2 = r ∧ Tw un' uf' won' wof' := by
    rcases q2 with ⟨a1, a2, a3⟩ | ⟨a1, a2, a3, a4⟩
    · rcases q3 with ⟨b1, b2, b3⟩ | ⟨b1, b2, b3, b4⟩
      · exact ⟨by rw [a2, b2], _, _, a3, b3⟩
      · omega
    · rcases q3 with ⟨b1, b2, b3⟩ | ⟨b1, b2, b3, b4⟩
      · omega
      · exact ⟨by rw [a2, b2], by rw [a3, a4, b3, b4]; exact hu⟩
  rw [er.1] at e2
  exact ⟨_, _, _, _, _, _, _, _, _, _, _, _, _, _, _, _, _, _, _, _, _, _, _, _, e1, e2, er.2, q1, q4⟩
theorem p_sum {N : Nat} (hN : 20010 < N) {gn win : Int32} {gf wif : Nat → Int32} {wlf : Nat → Int64} (h : Tw gn gf win wif) : ∃ r wlf', f_T_sum N gn gf = some r ∧ f_Mo_sum N win wif wlf = some (r, wlf') := by
  obtain ⟨k, B, h1, h2⟩ := h
  obtain ⟨wl, e⟩ := m_sum0 (N := N) (by omega) h2 wlf
  exact ⟨_, _, t_sum (by omega) h1, e⟩
theorem p_size {un won : Int32} {uf wof : Nat → Int32} (h : Tw un uf won wof) : ∃ r, f_T_size un = some r ∧ f_Mo_size won = some r := by
  obtain ⟨k, B, h1, h2⟩ := h
  refine ⟨nI k, ?_, ?_⟩
  · unfold f_T_size
    rw [j_T_size_0, bd1_of (s_count _), h1.1]
  · unfold f_Mo_size
    rw [j_Mo_size_0, h2.1]
theorem p_place {xp wpl : Int32} (h : xp = wpl) : ∃ r, f_T_place xp = some r ∧ f_Mo_place wpl = some r := by
  subst h
  refine ⟨xp, ?_, ?_⟩
  · unfold f_T_place
    rw [j_T_place_0]
  · unfold f_Mo_place
    rw [j_Mo_place_0]
theorem p_byteAt {un won : Int32} {uf wof : Nat → Int32} (x : Int32) (h : Tw un uf won wof) : ∃ r, f_T_byteAt x un uf = some r ∧ f_Mo_byteAt x won wof = some r := by
  obtain ⟨k, B, h1, h2⟩ := h
  have hk := h1.2.1
  by_cases a : x < 0 ∨ nI k ≤ x
  · refine ⟨_, ?_, m_byteAtOut h2 a⟩
    unfold f_T_byteAt
    rw [j_T_byteAt_0, bd1_of (s_getOut h1 a)]
  · obtain ⟨j, hj, rfl⟩ := nI_of (fun z => a (Or.inl z))
    have jk : j < k := Nat.lt_of_not_le (fun z => a (Or.inr (nI_le z hj)))
    refine ⟨_, ?_, m_byteAt h2 jk⟩
    unfold f_T_byteAt
    rw [j_T_byteAt_0, bd1_of (s_get h1 jk)]
