/-! Frames, one behind the other: the class. -/
theorem s_wordOut {L k : Nat} {n : Int32} {f : Nat → Int32} {B : Nat → Nat} (h : Rw L k n f B) {j : Nat} (hj : k < j + 4) (hj2 : j ≤ 16000) : f_Row_word L (nI j) n f = some 0 := by
  obtain ⟨rfl, h1, h2, h3⟩ := h
  unfold f_Row_word
  rw [j_Row_word_0, if_neg (nIp (by omega)), if_pos (show nI k - (4 : Int32) < nI j from by
    rw [Int32.lt_iff_toInt_lt, show (nI k - (4 : Int32)).toInt = (k : Int) - 4 from pk_sub_toInt (b := 4) (by omega) (by decide), nI_toInt (by omega)]
    omega)]
theorem i64_msk {w : Nat} (hw : w < 4294967296) : (nI w).toInt64 &&& (4294967295 : Int64) = lN w := by
  apply wN_inj
  rw [wN_mask, wN_i64, vN_nI, wN_lN (by omega), Nat.mod_eq_of_lt hw]
theorem vN_and (x y : Int32) : vN (x &&& y) = vN x &&& vN y := by
  unfold vN
  rw [Int32.toBitVec_and, BitVec.toNat_and]
theorem and16 {w : Nat} (hw : w < 4294967296) : nI w &&& (-16 : Int32) = nI (w / 16 * 16) := by
  apply vN_inj
  rw [vN_and, vN_nI, vN_nI, show vN (-16 : Int32) = (2 ^ 28 - 1) <<< 4 from by decide, Nat.mod_eq_of_lt hw, Nat.mod_eq_of_lt (by omega), show w / 16 * 16 = (w >>> 4) <<< 4 from by rw [Nat.shiftLeft_eq, Nat.shiftRight_eq_div_pow]]
  apply Nat.eq_of_testBit_eq
  intro i
  rw [Nat.testBit_and, Nat.testBit_shiftLeft, Nat.testBit_shiftLeft, Nat.testBit_two_pow_sub_one, Nat.testBit_shiftRight]
  by_cases c : 4 ≤ i
  · rw [show 4 + (i - 4) = i from by omega]
    by_cases d : i - 4 < 28
    · simp [c, d]
    · have : w.testBit i = false := Nat.testBit_lt_two_pow (Nat.lt_of_lt_of_le hw (show 2 ^ 32 ≤ 2 ^ i from Nat.pow_le_pow_right (by decide) (by omega)))
      simp [this]
  · simp [c]
theorem s_spr {kg j c : Nat} {G C : Nat → Nat} {gn pl tn : Int32} {gf tf : Nat → Int32} {most : Nat} (hG : Rw 8000 kg gn gf G) (hT : Rw 8000 c tn tf C) (hc : c ≤ most) (hj : j + 4 ≤ kg) : ∃ at' pl', f_FR_passSpare (nI j) pl gn gf = some (nI (spr G kg (j + 4) c C).1, at', pl') ∧ Ft kg most (j + 4) c (spr G kg (j + 4) c C) at' pl' tn tf := by
  have hk := hG.2.1
  have hgn := hG.1
  subst hgn
  unfold f_FR_passSpare
  rw [j_FR_passSpare_0, show nI j + (4 : Int32) = nI (j + 4) from nI_add j 4, show nI (j + 4) + (4 : Int32) = nI (j + 4 + 4) from nI_add (j + 4) 4, bd1_of (s_left _ _), pk_sub hj, spr]
  by_cases c1 : kg < j + 4 + 4
  · rw [if_neg (show ¬ (4 : Int32) ≤ nI (kg - (j + 4)) from nI_ge (b := 4) (by omega) (by decide)), if_pos c1, bd2_of (s_fcut _)]
    exact ⟨_, _, rfl, Ft.no (by decide) (by decide) rfl hT⟩
  · have e1 := s_word hG (j := j + 4) (by omega)
    have hw := W4_lt hG (j := j + 4) (by omega)
    rw [if_pos (show (4 : Int32) ≤ nI (kg - (j + 4)) from nI_le (a := 4) (by omega) (by omega)), if_neg c1, bd1_of e1, bd1_of (s_left _ _), pk_sub (by omega)]
    generalize W4 G (j + 4) = w at *
    rw [i64_msk hw, nI_l (by omega), lN_i]
    by_cases c2 : kg < j + 4 + 4 + w
    · rw [if_neg (by rw [lg_cmp_ge, pk_lLE (by omega) (by omega)]; omega), if_pos c2, bd2_of (s_fcut _)]
      exact ⟨_, _, rfl, Ft.no (by decide) (by decide) rfl hT⟩
    · rw [if_pos (by rw [lg_cmp_ge, pk_lLE (by omega) (by omega)]; omega), if_neg c2, nI_add]
      exact ⟨_, _, rfl, Ft.yes rfl hT (by omega) (by omega) (Nat.le_refl _) hc⟩
theorem s_nxt {N kg kh most i j c : Nat} {G H C : Nat → Nat} {gn hsn tn fl0 gr0 sz0 st0 pl b1 b2 b3 b4 b5 b6 : Int32} {gf hsf tf : Nat → Int32} (hN : 20010 < N) (hm : most ≤ 8000) (hG : Rw 8000 kg gn gf G) (hH : Rw 8000 kh hsn hsf H) (hT : Rw 8000 c tn tf C) (hc : c ≤ most) (hi : i < kg) (hj : j < kg) (kq : Int32 → Int32 → Int32 → Int32 → Int32 → Int32 → Int32 → Int32 → Int32 → Int32 → Int32 → Int32 → Int32 → Int32 → (Nat → Int32) → Option (Int32 × Int32 × Int32 × Int32 × Int32 × Int32 × Int32 × Int32 × Int32 × Int32 × Int32 × Int32 × Int32 × Int32 × Int32 × (Nat → Int32))) : ∃ at' fl' gr' sz' st' pl' d1 d2 d3 d4 d5 d6 tn' tf', b_FR_readFrames_12 N (nI most) gn gf hsn hsf kq (nI i) (nI j) fl0 gr0 sz0 st0 pl b1 b2 b3 b4 b5 b6 tn tf = j_FR_readFrames_110 (nI i) (nI (nxtF G H kg kh most j c C).1) at' (nI most) fl' gr' sz' st' pl' d1 d2 d3 d4 d5 d6 tn' tf' kq ∧ Ft kg most (j + 4) c (nxtF G H kg kh most j c C) at' pl' tn' tf' := by
  have hk := hG.2.1
  have hgn := hG.1
  subst hgn
  rw [b_FR_readFrames_12, bd1_of (s_count _), if_neg (nI_ge hi (by omega)), bd1_of (s_count _), if_neg (nI_ge hj (by omega)), nxtF]
  by_cases c1 : kg < j + 4
  · rw [bd1_of (s_wordOut hG c1 (by omega)), bd1_of (s_left _ _), pk_sub (by omega), if_neg (show ¬ (4 : Int32) ≤ nI (kg - j) from nI_ge (b := 4) (by omega) (by decide)), bd2_of (s_fcut _), if_pos c1]
    exact ⟨_, _, _, _, _, _, _, _, _, _, _, _, _, _, rfl, Ft.no (by decide) (by decide) rfl hT⟩
  · have hw := W4_lt hG (j := j) (by omega)
    rw [bd1_of (s_word hG (j := j) (by omega)), bd1_of (s_left _ _), pk_sub (by omega), if_pos (show (4 : Int32) ≤ nI (kg - j) from nI_le (a := 4) (by omega) (by omega)), if_neg c1]
    generalize W4 G j = w at *
    by_cases c2 : w = 407708164
    · rw [if_pos (show nI w = 407708164 from by rw [c2]; rfl), if_pos c2]
      obtain ⟨at', fl', gr', sz', st', pl', d1, d2, d3, d4, d5, d6, tn', tf', e, g⟩ := s_frm (N := N) (fl0 := fl0) (gr0 := gr0) (sz0 := sz0) (pl := pl) (b1 := b1) (b2 := b2) (b3 := b3) (b4 := b4) (b5 := b5) (b6 := b6) hN hm hG hH hT hc (j := j) (by omega)
      rw [bd15_of e]
      exact ⟨_, _, _, _, _, _, _, _, _, _, _, _, _, _, rfl, g⟩
    · rw [if_neg (show ¬ nI w = 407708164 from fun z => c2 ((nI_eq32 (b := 407708164) (by omega) (by decide)).mp z)), if_neg c2, and16 hw]
      by_cases c3 : w / 16 = 25481893
      · rw [if_pos (show nI (w / 16 * 16) = 407710288 from by rw [c3]; rfl), if_pos c3]
        obtain ⟨at', pl', e, g⟩ := s_spr (pl := pl) (most := most) hG hT hc (j := j) (by omega)
        rw [bd3_of e]
        exact ⟨_, _, _, _, _, _, _, _, _, _, _, _, _, _, rfl, g⟩
      · rw [if_neg (show ¬ nI (w / 16 * 16) = 407710288 from fun z => by have := (nI_eq32 (b := 407710288) (by omega) (by decide)).mp z; omega), if_neg c3, bd2_of (s_ffault _ _)]
        exact ⟨_, _, _, _, _, _, _, _, _, _, _, _, _, _, rfl, Ft.no (by decide) (by decide) rfl hT⟩
theorem loop15_s {α1 α2 α3 α4 α5 α6 α7 α8 α9 α10 α11 α12 α13 α14 α15 ρ : Type} (b : (α1 → α2 → α3 → α4 → α5 → α6 → α7 → α8 → α9 → α10 → α11 → α12 → α13 → α14 → α15 → Option ρ) → α1 → α2 → α3 → α4 → α5 → α6 → α7 → α8 → α9 → α10 → α11 → α12 → α13 → α14 → α15 → Option ρ) (n : Nat) (x1 : α1) (x2 : α2) (x3 : α3) (x4 : α4) (x5 : α5) (x6 : α6) (x7 : α7) (x8 : α8) (x9 : α9) (x10 : α10) (x11 : α11) (x12 : α12) (x13 : α13) (x14 : α14) (x15 : α15) : loop15 b (n + 1) x1 x2 x3 x4 x5 x6 x7 x8 x9 x10 x11 x12 x13 x14 x15 = b (loop15 b n) x1 x2 x3 x4 x5 x6 x7 x8 x9 x10 x11 x12 x13 x14 x15 := rfl
theorem s_frames {N kg kh most : Nat} {G H : Nat → Nat} {gn hsn : Int32} {gf hsf : Nat → Int32} (hN : 20010 < N) (hm : most ≤ 8000) (hG : Rw 8000 kg gn gf G) (hH : Rw 8000 kh hsn hsf H) : ∀ (m fuel F i j c : Nat) (C : Nat → Nat) (fl gr sz st pl b1 b2 b3 b4 b5 b6 tn : Int32) (tf : Nat → Int32), kg - j ≤ m → m < fuel → m < F → i ≤ j → j ≤ kg → c ≤ most → Rw 8000 c tn tf C → ∃ at' fl' gr' sz' st' d1 d2 d3 d4 d5 d6 tn' tf', loop15 (b_FR_readFrames_12 N (nI most) gn gf hsn hsf) fuel (nI i) (nI j) fl gr sz st pl b1 b2 b3 b4 b5 b6 tn tf = some (nI (frs G H kg kh most F j c C).1, at', nI most, fl', gr', sz', st', nI (frs G H kg kh most F j c C).2.1, d1, d2, d3, d4, d5, d6, tn', tf') ∧ (frs G H kg kh most F j c C).1 ≤ 11 ∧ (∃ k B, Rw 8000 k tn' tf' B) ∧ ((frs G H kg kh most F j c C).1 = 0 → Rw 8000 (frs G H kg kh most F j c C).2.2.2.1 tn' tf' (frs G H kg kh most F j c C).2.2.2.2) := by
  have hk := hG.2.1
  have hgn := hG.1
  subst hgn
  have e124 : ∀ (a fl gr sz st b1 b2 b3 b4 b5 b6 tn : Int32) (tf : Nat → Int32), j_FR_readFrames_124 a (nI most) fl gr sz st b1 b2 b3 b4 b5 b6 (nI kg) tn tf = some (0, a, nI most, fl, gr, sz, st, nI kg, b1, b2, b3, b4, b5, b6, tn, tf) := by
    intro a fl gr sz st b1 b2 b3 b4 b5 b6 tn tf
    rw [j_FR_readFrames_124, bd1_of (s_count _)]
  intro m
  induction m with
  | zero =>
    intro fuel F i j c C fl gr sz st pl b1 b2 b3 b4 b5 b6 tn tf h1 h2 h3 hi hj hc hT
    obtain ⟨fuel, rfl⟩ : ∃ z, fuel = z + 1 := ⟨fuel - 1, by omega⟩
    rw [frs_end (by omega), loop15_s, b_FR_readFrames_12, bd1_of (s_count _)]
    by_cases ci : kg ≤ i
    · rw [if_pos (nI_le ci (by omega)), e124]
      exact ⟨_, _, _, _, _, _, _, _, _, _, _, _, _, rfl, Nat.zero_le _, ⟨_, _, hT⟩, fun _ => hT⟩
    · rw [if_neg (nI_ge (by omega) (by omega)), bd1_of (s_count _), if_pos (nI_le (by omega) (by omega)), e124]
      exact ⟨_, _, _, _, _, _, _, _, _, _, _, _, _, rfl, Nat.zero_le _, ⟨_, _, hT⟩, fun _ => hT⟩
  | succ m ih =>
    intro fuel F i j c C fl gr sz st pl b1 b2 b3 b4 b5 b6 tn tf h1 h2 h3 hi hj hc hT
    by_cases cj : kg ≤ j
    · exact ih fuel F i j c C fl gr sz st pl b1 b2 b3 b4 b5 b6 tn tf (by omega) (by omega) (by omega) hi hj hc hT
    obtain ⟨fuel, rfl⟩ : ∃ z, fuel = z + 1 := ⟨fuel - 1, by omega⟩
    obtain ⟨F, rfl⟩ : ∃ z, F = z + 1 := ⟨F - 1, by omega⟩
    obtain ⟨at', fl', gr', sz', st', pl', d1, d2, d3, d4, d5, d6, tn', tf', e, g⟩ := s_nxt (N := N) (fl0 := fl) (gr0 := gr) (sz0 := sz) (st0 := st) (pl := pl) (b1 := b1) (b2 := b2) (b3 := b3) (b4 := b4) (b5 := b5) (b6 := b6) hN hm hG hH hT hc (i := i) (j := j) (by omega) (by omega) (loop15 (b_FR_readFrames_12 N (nI most) (nI kg) gf hsn hsf) fuel)
    rw [loop15_s, e, j_FR_readFrames_110, frs_s, if_neg cj]
    generalize nxtF G H kg kh most j c C = R at *
    by_cases c5 : R.1 = 0
    · obtain ⟨g1, g2, g3, g4, g5, g6⟩ := g.2.2 c5
      rw [if_pos (show nI R.1 = 0 from by rw [c5]; rfl), if_pos c5, g1, nI_1]
      exact ih fuel F (i + 1) R.2.2.1 R.2.2.2.1 R.2.2.2.2 fl' gr' sz' st' pl' d1 d2 d3 d4 d5 d6 tn' tf' (by omega) (by omega) (by omega) (by omega) g4 g6 g2
    · have hR := g.1
      obtain ⟨g1, g2⟩ := g.2.1 c5
      rw [if_neg (show ¬ nI R.1 = 0 from nI_ne0 (by omega) (by omega)), if_neg c5, g1]
      exact ⟨_, _, _, _, _, _, _, _, _, _, _, _, _, rfl, hR, g2, fun z => absurd z c5⟩
theorem s_fwhere (x : Int32) : f_FR_where x = some x := rfl
theorem t_unframeNo {N : Nat} {x xp gn un hsn tn b1 b2 b3 b4 b5 b6 q1 q2 q3 q4 q5 q6 q7 : Int32} {gf uf hsf tf : Nat → Int32} (hx : x < 0 ∨ 8000 < x) : f_T_unframe N x xp gn gf un uf hsn hsf tn tf b1 b2 b3 b4 b5 b6 q1 q2 q3 q4 q5 q6 q7 = some (-12, xp, un, uf, tn, tf, b1, b2, b3, b4, b5, b6, q1, q2, q3, q4, q5, q6, q7) := by
  unfold f_T_unframe
  rw [j_T_unframe_0, bd1_of s_isMost, if_pos hx, if_pos rfl]
theorem t_unframe {N kg ku kh most : Nat} (hN : 20010 < N) (hm : most ≤ 8000) {xp gn un hsn tn b1 b2 b3 b4 b5 b6 q1 q2 q3 q4 q5 q6 q7 : Int32} {gf uf hsf tf : Nat → Int32} {G U H : Nat → Nat} (hG : Rw 8000 kg gn gf G) (hU : Rw 8000 ku un uf U) (hH : Rw 8000 kh hsn hsf H) (hT : ∃ k B, Rw 8000 k tn tf B) : ∃ r un' uf' tn' tf' c1 c2 c3 c4 c5 c6 p1 p2 p3 p4 p5 p6 p7, f_T_unframe N (nI most) xp gn gf un uf hsn hsf tn tf b1 b2 b3 b4 b5 b6 q1 q2 q3 q4 q5 q6 q7 = some (r, nI (unf G H kg kh most).2.1, un', uf', tn', tf', c1, c2, c3, c4, c5, c6, p1, p2, p3, p4, p5, p6, p7) ∧ (∃ k B, Rw 8000 k tn' tf' B) ∧ (((unf G H kg kh most).1 = 0 ∧ r = nI (unf G H kg kh most).2.2.2.1 ∧ Rw 8000 (unf G H kg kh most).2.2.2.1 un' uf' (unf G H kg kh most).2.2.2.2) ∨ ((unf G H kg kh most).1 ≠ 0 ∧ r = -nI (unf G H kg kh most).1 ∧ un' = un ∧ uf' = uf)) := by
  obtain ⟨kt, T, hT⟩ := hT
  obtain ⟨e1, hT0⟩ := s_cut0 hT
  have hk := hG.2.1
  have hT1 : Rw 8000 0 0 tf (fun _ => 0) := hT0.congr (fun j hj => absurd hj (Nat.not_lt_zero j))
  obtain ⟨at', fl', gr', sz', st', d1, d2, d3, d4, d5, d6, tn', tf', e2, h2, h3, h4⟩ := s_frames (N := N) hN hm hG hH 8000 N 20001 0 0 0 (fun _ => 0) q3 q4 q5 q6 q7 b1 b2 b3 b4 b5 b6 0 tf (by omega) (by omega) (by omega) (Nat.le_refl _) (Nat.zero_le _) (Nat.zero_le _) hT1
  have e2 : f_FR_readFrames N (nI most) q3 q4 q5 q6 q7 b1 b2 b3 b4 b5 b6 gn gf hsn hsf 0 tf = some (nI (unf G H kg kh most).1, at', nI most, fl', gr', sz', st', nI (unf G H kg kh most).2.1, d1, d2, d3, d4, d5, d6, tn', tf') := e2
  have h2 : (unf G H kg kh most).1 ≤ 11 := h2
  have h4 : (unf G H kg kh most).1 = 0 → Rw 8000 (unf G H kg kh most).2.2.2.1 tn' tf' (unf G H kg kh most).2.2.2.2 := h4
  unfold f_T_unframe
  rw [j_T_unframe_0, bd1_of s_isMost, if_neg (show ¬ (nI most < 0 ∨ 8000 < nI most) from fun z => z.elim (nI_pos (by omega)) (nI_nlt (a := 8000) hm (by decide))), if_neg (by decide), bd1_of e1, bd16_of e2, bd1_of (s_fwhere _)]
  generalize unf G H kg kh most = R at *
  by_cases c : R.1 = 0
  · rw [if_pos (show nI R.1 = 0 from by rw [c]; rfl)]
    obtain ⟨f2, e4, h5⟩ := s_keep hU (h4 c)
    rw [bd3_of e4]
    exact ⟨_, _, _, _, _, _, _, _, _, _, _, _, _, _, _, _, _, _, rfl, h3, Or.inl ⟨c, rfl, h5⟩⟩
  · rw [if_neg (show ¬ nI R.1 = 0 from nI_ne0 (by omega) (by omega))]
    exact ⟨_, _, _, _, _, _, _, _, _, _, _, _, _, _, _, _, _, _, rfl, h3, Or.inr ⟨c, rfl, rfl, rfl⟩⟩
