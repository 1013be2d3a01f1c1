/-! A frame, frames: the model reads. -/
theorem lN_eq64 {a b : Nat} (ha : a < 2 ^ 64) (hb : b < 2 ^ 64) : lN a = lN b ↔ a = b := by
  constructor
  · intro h
    rw [← wN_lN ha, ← wN_lN hb, h]
  · intro h
    rw [h]
theorem m_sz {N kg most sz st j c : Nat} {G C : Nat → Nat} {fl win wpl wbn wnu : Int32} {wif wbf wcf : Nat → Int32} {wlf : Nat → Int64} (hN : 20010 < N) (hm : most ≤ 8000) (hG : Mw kg win wif G) (hC : Ma 8000 c wcf C) (hs : st ≤ c) (hc : c ≤ most) (hj : j ≤ kg) (hsz : ¬ fl &&& (8 : Int32) = 0 → sz + 8 ≤ kg) : ∃ wpl' wbn' wcn' wat' wnu' wbf' wcf' wlf', j_Mo_readFrame_445 N fl (nI sz) (nI st) wpl wbn (nI c) (nI j) wnu wif wbf wcf wlf = some (nI (szR G fl sz st j c C).1, wpl', wbn', wcn', wat', wnu', wbf', wcf', wlf') ∧ Fm kg most j c (szR G fl sz st j c C) wpl' wcn' wat' wcf' := by
  rw [j_Mo_readFrame_445, szR]
  by_cases c1 : fl &&& (8 : Int32) = 0
  · rw [if_pos c1, if_pos c1]
    exact ⟨_, _, _, _, _, _, _, _, rfl, Fm.yes rfl rfl hC (Nat.le_refl _) hj (Nat.le_refl _) hc⟩
  · have h8 := hsz c1
    have e := m_num8at (N := N) hN hG (j := sz) h8
    have w1 := W4_ltM hG (j := sz) (by omega)
    have w2 := W4_ltM hG (j := sz + 4) (by omega)
    rw [if_neg c1, if_neg c1, bd1_of e, pk_sub hs, nI_l (by omega)]
    generalize W4 G sz = p at *
    generalize W4 G (sz + 4) = q at *
    by_cases c2 : p = c - st ∧ q = 0
    · rw [if_pos (by rw [lg_cmp_eq, lN_eq64 (by omega) (by omega)]; omega), if_pos c2]
      exact ⟨_, _, _, _, _, _, _, _, rfl, Fm.yes rfl rfl hC (Nat.le_refl _) hj (Nat.le_refl _) hc⟩
    · rw [if_neg (by rw [lg_cmp_eq, lN_eq64 (by omega) (by omega)]; omega), if_neg c2, bd2_of (m_ffault _ _)]
      exact ⟨_, _, _, _, _, _, _, _, rfl, Fm.no (by decide) (by decide) rfl⟩
theorem Fm.from {kg most j j' c c' : Nat} {R : Rfr} {wpl wcn wat : Int32} {wcf : Nat → Int32} (g : Fm kg most j c R wpl wcn wat wcf) (hj : j' ≤ j) (hc : c' ≤ c) : Fm kg most j' c' R wpl wcn wat wcf := ⟨g.1, g.2.1, fun z => by
  obtain ⟨g1, g2, g3, g4, g5, g6, g7⟩ := g.2.2 z
  exact ⟨g1, g2, g3, by omega, g5, by omega, g7⟩⟩
abbrev KqM : Type := Int32 → Int32 → Int32 → Int32 → Int32 → Int32 → (Nat → Int32) → (Nat → Int32) → (Nat → Int64) → Option (Int32 × Int32 × Int32 × Int32 × Int32 × Int32 × (Nat → Int32) × (Nat → Int32) × (Nat → Int64))
theorem m_tail {N kg most sz st j c : Nat} {G C : Nat → Nat} {fl x4 win whn wpl wbn wnu : Int32} {wif whf wbf wcf : Nat → Int32} {wlf : Nat → Int64} (kq : KqM) (hN : 20010 < N) (hm : most ≤ 8000) (hG : Mw kg win wif G) (hC : Ma 8000 c wcf C) (hs : st ≤ c) (hc : c ≤ most) (hj : j ≤ kg) (hsz : ¬ fl &&& (8 : Int32) = 0 → sz + 8 ≤ kg) : ∃ wpl' wbn' wcn' wat' wnu' wbf' wcf' wlf', b_Mo_readFrame_262 N (nI most) fl x4 (nI sz) (nI st) win whn wif whf kq 0 wpl wbn (nI c) (nI j) wnu wbf wcf wlf = some (nI (tlR G kg fl sz st j c C).1, wpl', wbn', wcn', wat', wnu', wbf', wcf', wlf') ∧ Fm kg most j c (tlR G kg fl sz st j c C) wpl' wcn' wat' wcf' := by
  have hk := hG.2.1
  have hwn := hG.1
  subst hwn
  rw [b_Mo_readFrame_262, if_pos z00, tlR]
  by_cases c1 : fl &&& (4 : Int32) = 0
  · rw [if_pos c1, if_pos c1]
    exact m_sz hN hm hG hC hs hc hj hsz
  · rw [if_neg c1, if_neg c1]
    have eh : f_Mo_has (4 : Int32) (nI kg) (nI j) = some (if kg < j + 4 then 0 else 1) := m_has (a := 4) (by omega) (by omega)
    rw [bd1_of eh]
    by_cases c2 : kg < j + 4
    · rw [if_pos c2, if_pos z00, if_pos c2, bd2_of (m_ffault _ _)]
      exact ⟨_, _, _, _, _, _, _, _, rfl, Fm.no (by decide) (by decide) rfl⟩
    · have e4 := m_num4at (N := N) hN hG (j := j) (by omega)
      have hw4 := W4_ltM hG (j := j) (by omega)
      obtain ⟨wl2, e5⟩ := m_sum (N := N) (aL := 8000) (a := st) (e := c) (af := wcf) (B := C) (by omega) hC hs wlf
      rw [if_neg c2, if_neg n10, if_neg c2, bd1_of e4, bd2_of e5]
      by_cases c3 : nI (W4 G j) = sumS C st (c - st)
      · rw [if_pos (by rw [lg_cmp_eq, ← uL_nI hw4, uL_inj]; exact c3), if_pos c3, show nI j + (4 : Int32) = nI (j + 4) from nI_add j 4]
        obtain ⟨wpl', wbn', wcn', wat', wnu', wbf', wcf', wlf', e, g⟩ := m_sz (N := N) (wpl := wpl) (wbn := wbn) (wnu := wnu) (wbf := wbf) (wlf := wl2) (fl := fl) hN hm hG hC hs hc (j := j + 4) (by omega) hsz
        exact ⟨_, _, _, _, _, _, _, _, e, g.from (by omega) (Nat.le_refl _)⟩
      · rw [if_neg (by rw [lg_cmp_eq, ← uL_nI hw4, uL_inj]; exact c3), if_neg c3, bd2_of (m_ffault _ _)]
        exact ⟨_, _, _, _, _, _, _, _, rfl, Fm.no (by decide) (by decide) rfl⟩
theorem m_blocks {N kg kh most q sz st : Nat} {G H : Nat → Nat} {fl win whn : Int32} {wif whf : Nat → Int32} (hN : 20010 < N) (hm : most ≤ 8000) (hG : Mw kg win wif G) (hH : Mw kh whn whf H) (hq1 : 4 ≤ q) (hq2 : q ≤ 7) (hsz : ¬ fl &&& (8 : Int32) = 0 → sz + 8 ≤ kg) : ∀ (m fuel F j c : Nat) (C : Nat → Nat) (wpl wbn wnu : Int32) (wbf wcf : Nat → Int32) (wlf : Nat → Int64), kg - j ≤ m → m + 1 < fuel → m < F → j ≤ kg → st ≤ c → c ≤ most → Ma 8000 c wcf C → ∃ wpl' wbn' wcn' wat' wnu' wbf' wcf' wlf', loop9 (b_Mo_readFrame_262 N (nI most) fl (nI q) (nI sz) (nI st) win whn wif whf) fuel 1 wpl wbn (nI c) (nI j) wnu wbf wcf wlf = some (nI (prts G H kg kh most fl (2 ^ (8 + 2 * q)) sz st F j c C).1, wpl', wbn', wcn', wat', wnu', wbf', wcf', wlf') ∧ Fm kg most j c (prts G H kg kh most fl (2 ^ (8 + 2 * q)) sz st F j c C) wpl' wcn' wat' wcf' := by
  have hk := hG.2.1
  have hwn := hG.1
  subst hwn
  obtain ⟨eg, hgr⟩ := grt_ok hq1 hq2
  generalize 2 ^ (8 + 2 * q) = gr at *
  have eh : ∀ j, j ≤ kg → f_Mo_has (4 : Int32) (nI kg) (nI j) = some (if kg < j + 4 then 0 else 1) := fun j hj => m_has (a := 4) (by omega) (by omega)
  intro m
  induction m with
  | zero =>
    intro fuel F j c C wpl wbn wnu wbf wcf wlf h1 h2 h3 hj hs hc hC
    obtain ⟨fuel, rfl⟩ : ∃ z, fuel = z + 1 := ⟨fuel - 1, by omega⟩
    rw [prts_end (by omega), loop9_s, b_Mo_readFrame_262, if_neg n10, bd1_of (eh j hj), if_pos (show kg < j + 4 from by omega), if_pos z00, bd2_of (m_ffault _ _)]
    exact ⟨_, _, _, _, _, _, _, _, rfl, Fm.no (by decide) (by decide) rfl⟩
  | succ m ih =>
    intro fuel F j c C wpl wbn wnu wbf wcf wlf h1 h2 h3 hj hs hc hC
    obtain ⟨fuel, rfl⟩ : ∃ z, fuel = z + 2 := ⟨fuel - 2, by omega⟩
    obtain ⟨F, rfl⟩ : ∃ z, F = z + 1 := ⟨F - 1, by omega⟩
    rw [loop9_s, b_Mo_readFrame_262, if_neg n10, bd1_of (eh j hj), prts_s]
    by_cases c4 : kg < j + 4
    · rw [if_pos c4, if_pos z00, bd2_of (m_ffault _ _), if_pos c4]
      exact ⟨_, _, _, _, _, _, _, _, rfl, Fm.no (by decide) (by decide) rfl⟩
    · have e1 := m_num4at (N := N) hN hG (j := j) (by omega)
      have hw := W4_ltM hG (j := j) (by omega)
      rw [if_neg c4, if_neg n10, if_neg c4, bd1_of e1]
      generalize W4 G j = w at *
      by_cases c0 : w = 0
      · rw [if_pos (show lg_cmp (lN w) 0 = 0 from by rw [lg_cmp_eq, c0]; rfl), if_pos c0, j_Mo_readFrame_308, if_pos z00, j_Mo_readFrame_338, if_pos (by decide), if_pos z00, j_Mo_readFrame_367, loop9_s, show nI j + (4 : Int32) = nI (j + 4) from nI_add j 4]
        obtain ⟨wpl', wbn', wcn', wat', wnu', wbf', wcf', wlf', e, g⟩ := m_tail (N := N) (fl := fl) (x4 := nI q) (whn := whn) (whf := whf) (wpl := wpl) (wbn := wbn) (wnu := wnu) (wbf := wbf) (wlf := wlf) (loop9 (b_Mo_readFrame_262 N (nI most) fl (nI q) (nI sz) (nI st) (nI kg) whn wif whf) fuel) hN hm hG hC hs hc (j := j + 4) (by omega) hsz
        exact ⟨_, _, _, _, _, _, _, _, e, g.from (by omega) (Nat.le_refl _)⟩
      · obtain ⟨wpl', wbn', wcn', wat', wnu', wbf', wcf', wlf', e, g⟩ := m_prt (N := N) (fl := fl) (wpl := wpl) (wbn := wbn) (wnu := wnu) (wbf := wbf) (wlf := wlf) hN hm hG hH hC hs hc hw hgr (j := j) (by omega)
        rw [if_neg (show ¬ lg_cmp (lN w) 0 = 0 from by rw [lg_cmp_eq, show (0 : Int64) = lN 0 from rfl, lN_eq64 (by omega) (by decide)]; exact c0), if_neg c0, j_Mo_readFrame_308, if_neg n10, eg, bd9_of e]
        generalize prt G H kg kh most fl gr st w j c C = R at *
        by_cases c5 : R.1 = 0
        · obtain ⟨g1, g2, g3, g4, g5, g6, g7⟩ := g.2.2 c5
          rw [if_pos c5, j_Mo_readFrame_338, if_pos (show nI R.1 ≤ 0 from by rw [c5]; decide), if_neg n10, j_Mo_readFrame_367, g1, g2]
          obtain ⟨p1, p2, p3, p4, p5, p6, p7, p8, e2, gg⟩ := ih (fuel + 1) F R.2.2.1 R.2.2.2.1 R.2.2.2.2 wpl' wbn' wnu' wbf' wcf' wlf' (by omega) (by omega) (by omega) g5 (by omega) g7 g3
          exact ⟨_, _, _, _, _, _, _, _, e2, gg.from (by omega) g6⟩
        · have hR := g.1
          rw [if_neg c5, j_Mo_readFrame_338, if_neg (show ¬ nI R.1 ≤ 0 from nI_nle (by omega) (by omega))]
          exact ⟨_, _, _, _, _, _, _, _, rfl, g.from (by omega) (Nat.le_refl _)⟩
theorem m_180 {N kg kh most q j a c : Nat} {G H C : Nat → Nat} {fl win whn wpl wbn wnu : Int32} {wif whf wbf wcf : Nat → Int32} {wlf : Nat → Int64} (hN : 20010 < N) (hm : most ≤ 8000) (hG : Mw kg win wif G) (hH : Mw kh whn whf H) (hC : Ma 8000 c wcf C) (hc : c ≤ most) (hq1 : 4 ≤ q) (hq2 : q ≤ 7) (ha : a = j + 2 + hdN fl) (hj : j + 2 ≤ kg) : ∃ wpl' wbn' wcn' wat' wnu' wbf' wcf' wlf', j_Mo_readFrame_180 N (nI most) (nI j) fl (nI q) (nI (j + 2)) win whn wpl wbn (nI c) (nI a) wnu wif whf wbf wcf wlf = some (nI (if kg < a + 1 then ((1, kg, j, c, C) : Rfr) else if G a = vN (sumS G j (2 + hdN fl)) / 2 ^ 8 % 256 then prts G H kg kh most fl (2 ^ (8 + 2 * q)) (j + 2) c 20001 (a + 1) c C else (6, a, j, c, C)).1, wpl', wbn', wcn', wat', wnu', wbf', wcf', wlf') ∧ Fm kg most j c (if kg < a + 1 then ((1, kg, j, c, C) : Rfr) else if G a = vN (sumS G j (2 + hdN fl)) / 2 ^ 8 % 256 then prts G H kg kh most fl (2 ^ (8 + 2 * q)) (j + 2) c 20001 (a + 1) c C else (6, a, j, c, C)) wpl' wcn' wat' wcf' := by
  have hk := hG.2.1
  have hwn := hG.1
  subst hwn
  have hle := hdN_le fl
  have eh : f_Mo_has (1 : Int32) (nI kg) (nI a) = some (if kg < a + 1 then 0 else 1) := m_has (a := 1) (by omega) (by omega)
  rw [j_Mo_readFrame_180, bd1_of eh]
  by_cases c1 : kg < a + 1
  · rw [if_pos c1, if_pos z00, if_pos c1, bd2_of (m_ffault _ _)]
    exact ⟨_, _, _, _, _, _, _, _, rfl, Fm.no (by decide) (by decide) rfl⟩
  · obtain ⟨hb, hv⟩ := hG.2.2 a (by omega)
    obtain ⟨wl2, e5⟩ := m_sum (N := N) (aL := 8000) (a := j) (e := a) (af := wif) (B := G) (by omega) ⟨by omega, by decide, fun i hi => hG.2.2 i (by omega)⟩ (by omega) wlf
    rw [show a - j = 2 + hdN fl from by omega] at e5
    have es : sr64 (uL (sumS G j (2 + hdN fl))) (8 : Int32) &&& (255 : Int64) = lN (vN (sumS G j (2 + hdN fl)) / 2 ^ 8 % 256) := by
      apply wN_inj
      have : vN (sumS G j (2 + hdN fl)) / 2 ^ 8 % 256 < 256 := Nat.mod_lt _ (by decide)
      rw [show (8 : Int32) = nI 8 from rfl, wN_sr8 (by decide), wN_uL, wN_lN (by omega)]
    have hv2 : vN (sumS G j (2 + hdN fl)) / 2 ^ 8 % 256 < 256 := Nat.mod_lt _ (by decide)
    rw [if_neg c1, if_neg n10, if_neg c1, as_of (vp_in_nI (by omega) (by decide)), bd2_of e5, nI_clamp (by omega), hv, nI_l (by omega), es]
    generalize vN (sumS G j (2 + hdN fl)) / 2 ^ 8 % 256 = v at *
    by_cases c2 : G a = v
    · have hsz : ¬ fl &&& (8 : Int32) = 0 → j + 2 + 8 ≤ kg := fun z => by
        have : 8 ≤ hdN fl := by unfold hdN; rw [if_neg z]; omega
        omega
      rw [if_pos (by rw [lg_cmp_eq, c2]), if_pos c2, show nI a + (1 : Int32) = nI (a + 1) from nI_1 a]
      obtain ⟨p1, p2, p3, p4, p5, p6, p7, p8, e2, gg⟩ := m_blocks (N := N) (st := c) (sz := j + 2) (fl := fl) hN hm hG hH hq1 hq2 hsz 8000 N 20001 (a + 1) c C wpl wbn wnu wbf wcf wl2 (by omega) (by omega) (by omega) (by omega) (Nat.le_refl _) hc hC
      exact ⟨_, _, _, _, _, _, _, _, e2, gg.from (by omega) (Nat.le_refl _)⟩
    · rw [if_neg (by rw [lg_cmp_eq, lN_eq64 (by omega) (by omega)]; exact c2), if_neg c2, bd2_of (m_ffault _ _)]
      exact ⟨_, _, _, _, _, _, _, _, rfl, Fm.no (by decide) (by decide) rfl⟩
theorem m_frm {N kg kh most j c : Nat} {G H C : Nat → Nat} {win whn wpl wbn wnu : Int32} {wif whf wbf wcf : Nat → Int32} {wlf : Nat → Int64} (hN : 20010 < N) (hm : most ≤ 8000) (hG : Mw kg win wif G) (hH : Mw kh whn whf H) (hC : Ma 8000 c wcf C) (hc : c ≤ most) (hj : j ≤ kg) : ∃ wpl' wbn' wcn' wat' wnu' wbf' wcf' wlf', f_Mo_readFrame N (nI most) win whn wpl wbn (nI c) (nI j) wnu wif whf wbf wcf wlf = some (nI (frm G H kg kh most j c C).1, wpl', wbn', wcn', wat', wnu', wbf', wcf', wlf') ∧ Fm kg most j c (frm G H kg kh most j c C) wpl' wcn' wat' wcf' := by
  have hk := hG.2.1
  have hwn := hG.1
  subst hwn
  have eh : ∀ a, a ≤ 8000 → f_Mo_has (1 : Int32) (nI kg) (nI a) = some (if kg < a + 1 then 0 else 1) := fun a h => m_has (a := 1) (by omega) (by omega)
  unfold f_Mo_readFrame
  rw [j_Mo_readFrame_0, bd1_of (eh j (by omega)), frm]
  by_cases c1 : kg < j + 1
  · rw [if_pos c1, if_pos z00, if_pos c1, bd2_of (m_ffault _ _)]
    exact ⟨_, _, _, _, _, _, _, _, rfl, Fm.no (by decide) (by decide) rfl⟩
  rw [if_neg c1, if_neg n10, if_neg c1]
  obtain ⟨hb, hv⟩ := hG.2.2 j (by omega)
  rw [as_of (vp_in_nI (by omega) (by decide)), nI_clamp (by omega), hv, bd1_of (m_areFlags _)]
  by_cases c2 : nI (G j) &&& (-62 : Int32) = 64
  · rw [if_pos c2, if_neg n10, if_neg (show ¬ ¬ nI (G j) &&& (-62 : Int32) = 64 from fun z => z c2), show nI j + (1 : Int32) = nI (j + 1) from nI_1 j, bd1_of (eh (j + 1) (by omega))]
    by_cases c3 : kg < j + 2
    · rw [if_pos (show kg < j + 1 + 1 from c3), if_pos z00, if_pos c3, bd2_of (m_ffault _ _)]
      exact ⟨_, _, _, _, _, _, _, _, rfl, Fm.no (by decide) (by decide) rfl⟩
    rw [if_neg (show ¬ kg < j + 1 + 1 from c3), if_neg n10, if_neg c3]
    obtain ⟨hb1, hv1⟩ := hG.2.2 (j + 1) (by omega)
    have e120 : j_Mo_readFrame_120 wbn (nI c) (nI (j + 1)) wnu wbf wcf wlf = some (5, nI (j + 1), wbn, nI c, nI (j + 1), wnu, wbf, wcf, wlf) := by rw [j_Mo_readFrame_120, bd2_of (m_ffault _ _)]
    rw [as_of (vp_in_nI (by omega) (by decide)), nI_clamp (by omega), hv1, show nI (G (j + 1)) / (16 : Int32) = nI (G (j + 1) / 16) from pk_div (d := 16) (by omega) (by decide) (by decide), e120]
    by_cases c4 : G (j + 1) / 16 < 4
    · rw [if_pos (show nI (G (j + 1) / 16) < 4 from nI_lt (b := 4) c4 (by decide)), if_pos (Or.inl c4)]
      exact ⟨_, _, _, _, _, _, _, _, rfl, Fm.no (by decide) (by decide) rfl⟩
    by_cases c5 : 7 < G (j + 1) / 16
    · rw [if_neg (show ¬ nI (G (j + 1) / 16) < 4 from nI_nlt (b := 4) (by omega) (by omega)), if_pos (show 7 < nI (G (j + 1) / 16) from nI_lt (a := 7) c5 (by omega)), if_pos (Or.inr (Or.inl c5))]
      exact ⟨_, _, _, _, _, _, _, _, rfl, Fm.no (by decide) (by decide) rfl⟩
    rw [if_neg (show ¬ nI (G (j + 1) / 16) < 4 from nI_nlt (b := 4) (by omega) (by omega)), if_neg (show ¬ 7 < nI (G (j + 1) / 16) from nI_nlt (a := 7) (by omega) (by decide)), as_of (vp_in_nI (by omega) (by decide)), show nI (G (j + 1)) - nI (G (j + 1) / 16) * (16 : Int32) = nI (G (j + 1) % 16) from by
      rw [show (16 : Int32) = nI 16 from rfl, ← pk_div (a := G (j + 1)) (d := 16) (by omega) (by decide) (by decide)]
      exact pk_rem (d := 16) (by omega) (by decide) (by decide)]
    by_cases c6 : G (j + 1) % 16 = 0
    · rw [if_pos (show nI (G (j + 1) % 16) = 0 from by rw [c6]; rfl), if_neg (show ¬ (G (j + 1) / 16 < 4 ∨ 7 < G (j + 1) / 16 ∨ ¬ G (j + 1) % 16 = 0) from by rintro (z | z | z); exact c4 z; exact c5 z; exact z c6), show nI (j + 1) + (1 : Int32) = nI (j + 2) from nI_1 (j + 1), show nI (j + 2) + (8 : Int32) = nI (j + 2 + 8) from nI_add (j + 2) 8]
      generalize hfl : nI (G j) = fl at *
      have e180 : ∀ a, a = j + 2 + hdN fl → _ := fun a ha => m_180 (N := N) (q := G (j + 1) / 16) (fl := fl) (wpl := wpl) (wbn := wbn) (wnu := wnu) (wbf := wbf) (wlf := wlf) hN hm hG hH hC hc (by omega) (by omega) ha (by omega)
      have e164 : ∀ t : Nat, t = (if fl &&& (8 : Int32) = 0 then 0 else 8) → ∃ wpl' wbn' wcn' wat' wnu' wbf' wcf' wlf', j_Mo_readFrame_164 N (nI most) (nI j) fl (nI (G (j + 1) / 16)) (nI (j + 2)) (nI kg) whn wpl wbn (nI c) (nI (j + 2 + t)) wnu wif whf wbf wcf wlf = some (nI (if kg < j + 2 + hdN fl + 1 then ((1, kg, j, c, C) : Rfr) else if G (j + 2 + hdN fl) = vN (sumS G j (2 + hdN fl)) / 2 ^ 8 % 256 then prts G H kg kh most fl (2 ^ (8 + 2 * (G (j + 1) / 16))) (j + 2) c 20001 (j + 2 + hdN fl + 1) c C else (6, j + 2 + hdN fl, j, c, C)).1, wpl', wbn', wcn', wat', wnu', wbf', wcf', wlf') ∧ Fm kg most j c (if kg < j + 2 + hdN fl + 1 then ((1, kg, j, c, C) : Rfr) else if G (j + 2 + hdN fl) = vN (sumS G j (2 + hdN fl)) / 2 ^ 8 % 256 then prts G H kg kh most fl (2 ^ (8 + 2 * (G (j + 1) / 16))) (j + 2) c 20001 (j + 2 + hdN fl + 1) c C else (6, j + 2 + hdN fl, j, c, C)) wpl' wcn' wat' wcf' := by
        intro t ht
        rw [j_Mo_readFrame_164]
        by_cases d1 : fl &&& (1 : Int32) = 0
        · have eh2 : j + 2 + t = j + 2 + hdN fl := by unfold hdN; rw [if_pos d1, ht]; rfl
          rw [if_pos d1, eh2]
          exact e180 _ rfl
        · have eh2 : j + 2 + t + 4 = j + 2 + hdN fl := by unfold hdN; rw [if_neg d1, ht]; omega
          rw [if_neg d1, show nI (j + 2 + t) + (4 : Int32) = nI (j + 2 + t + 4) from nI_add _ 4, eh2]
          exact e180 _ rfl
      by_cases d8 : fl &&& (8 : Int32) = 0
      · rw [if_pos d8]
        exact e164 0 (if_pos d8).symm
      · rw [if_neg d8]
        exact e164 8 (if_neg d8).symm
    · rw [if_neg (show ¬ nI (G (j + 1) % 16) = 0 from nI_ne0 (by omega) (by omega)), if_pos (Or.inr (Or.inr c6))]
      exact ⟨_, _, _, _, _, _, _, _, rfl, Fm.no (by decide) (by decide) rfl⟩
  · rw [if_neg c2, if_pos z00, if_pos c2, bd2_of (m_ffault _ _)]
    exact ⟨_, _, _, _, _, _, _, _, rfl, Fm.no (by decide) (by decide) rfl⟩
