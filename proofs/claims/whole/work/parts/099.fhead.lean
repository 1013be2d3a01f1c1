/-! FLAGS and head of a frame, a frame: the class. -/
theorem grt_ok {q : Nat} (h1 : 4 ≤ q) (h2 : q ≤ 7) : (1 : Int32) <<< (((8 : Int32) + ((2 : Int32) * nI q)) &&& 31) = nI (2 ^ (8 + 2 * q)) ∧ 2 ^ (8 + 2 * q) < 8388608 := by
  have h : q = 4 ∨ q = 5 ∨ q = 6 ∨ q = 7 := by omega
  rcases h with rfl | rfl | rfl | rfl <;> decide
theorem s_flags {kg j : Nat} {G : Nat → Nat} {gn fl0 gr0 pl : Int32} {gf : Nat → Int32} (hG : Rw 8000 kg gn gf G) (hj : j ≤ kg) : f_FR_readFlags (nI j) fl0 gr0 pl gn gf = if kg < j + 1 then some (1, nI j, fl0, gr0, gn) else if ¬ nI (G j) &&& (-62 : Int32) = 64 then some (5, nI j, nI (G j), gr0, nI j) else if kg < j + 2 then some (1, nI (j + 1), nI (G j), gr0, gn) else if G (j + 1) / 16 < 4 ∨ 7 < G (j + 1) / 16 ∨ ¬ G (j + 1) % 16 = 0 then some (5, nI (j + 1), nI (G j), gr0, nI (j + 1)) else some (0, nI (j + 2), nI (G j), nI (2 ^ (8 + 2 * (G (j + 1) / 16))), pl) := by
  have hk := hG.2.1
  have hgn := hG.1
  subst hgn
  unfold f_FR_readFlags
  rw [j_FR_readFlags_0, bd1_of (s_left _ _), pk_sub hj]
  by_cases c1 : kg < j + 1
  · rw [if_neg (show ¬ (1 : Int32) ≤ nI (kg - j) from nI_ge (b := 1) (by omega) (by decide)), if_pos c1, bd2_of (s_fcut _)]
  · rw [if_pos (show (1 : Int32) ≤ nI (kg - j) from nI_le (a := 1) (by omega) (by omega)), if_neg c1, bd1_of (s_get hG (j := j) (by omega)), bd1_of (s_areFlags _)]
    by_cases c2 : nI (G j) &&& (-62 : Int32) = 64
    · rw [if_pos c2, if_neg n10, if_neg (fun z => z c2), show nI j + (1 : Int32) = nI (j + 1) from nI_1 j, bd1_of (s_left _ _), pk_sub (by omega)]
      by_cases c3 : kg < j + 2
      · rw [if_neg (show ¬ (1 : Int32) ≤ nI (kg - (j + 1)) from nI_ge (b := 1) (by omega) (by decide)), if_pos c3, bd2_of (s_fcut _)]
      · have hb := (hG.2.2.2 (j + 1) (by omega)).1
        have e16 : nI (G (j + 1)) >>> ((4 : Int32) &&& 31) = nI (G (j + 1) / 16) := pk_shrN (n := G (j + 1)) (by omega) ((4 : Int32) &&& 31) 4 (by decide)
        rw [if_pos (show (1 : Int32) ≤ nI (kg - (j + 1)) from nI_le (a := 1) (by omega) (by omega)), if_neg c3, bd1_of (s_get hG (j := j + 1) (by omega)), e16, bd1_of s_isK]
        have e110 : j_FR_readFlags_110 (nI (j + 1)) (nI (G j)) gr0 = some (5, nI (j + 1), nI (G j), gr0, nI (j + 1)) := by rw [j_FR_readFlags_110, bd2_of (s_ffault _ _)]
        by_cases c4 : G (j + 1) / 16 < 4 ∨ 7 < G (j + 1) / 16
        · have c4' : nI (G (j + 1) / 16) < 4 ∨ 7 < nI (G (j + 1) / 16) := by
            rcases c4 with z | z
            · exact Or.inl (nI_lt (b := 4) z (by decide))
            · exact Or.inr (nI_lt (a := 7) z (by omega))
          rw [if_pos c4', if_pos z00, e110, if_pos (by rcases c4 with z | z; exact Or.inl z; exact Or.inr (Or.inl z))]
        · have c4' : ¬ (nI (G (j + 1) / 16) < 4 ∨ 7 < nI (G (j + 1) / 16)) := by
            rintro (z | z)
            · exact c4 (Or.inl ((nI_ltI (b := 4) (by omega) (by decide)).mp z))
            · exact c4 (Or.inr ((nI_ltI (a := 7) (by decide) (by omega)).mp z))
          rw [if_neg c4', if_neg n10, bd1_of (s_get hG (j := j + 1) (by omega)), show (16 : Int32) * nI (G (j + 1) / 16) = nI (16 * (G (j + 1) / 16)) from pk_mul 16 _]
          by_cases c5 : G (j + 1) % 16 = 0
          · rw [if_pos (show nI (G (j + 1)) = nI (16 * (G (j + 1) / 16)) from by congr 1; omega), if_neg (by rintro (z | z | z); exact c4 (Or.inl z); exact c4 (Or.inr z); exact z c5), (grt_ok (q := G (j + 1) / 16) (by omega) (by omega)).1, show nI (j + 1) + (1 : Int32) = nI (j + 2) from nI_1 (j + 1)]
          · rw [if_neg (show ¬ nI (G (j + 1)) = nI (16 * (G (j + 1) / 16)) from fun z => by have := (nI_eq (by omega) (by omega)).mp z; omega), e110, if_pos (Or.inr (Or.inr c5))]
    · rw [if_neg c2, if_pos z00, bd2_of (s_ffault _ _), if_pos c2]
theorem s_rhead {N kg j a : Nat} {G : Nat → Nat} {fl gn pl : Int32} {gf : Nat → Int32} (hN : 20010 < N) (hG : Rw 8000 kg gn gf G) (haj : a ≤ j) (hj : j ≤ kg) : f_FR_readHead N (nI a) (nI j) fl pl gn gf = if kg < j + hdN fl + 1 then some (1, nI j, nI j, gn) else if G (j + hdN fl) = vN (sumS G a (j + hdN fl - a)) / 2 ^ 8 % 256 then some (0, nI (j + hdN fl + 1), nI j, pl) else some (6, nI (j + hdN fl), nI j, nI (j + hdN fl)) := by
  have hk := hG.2.1
  have hgn := hG.1
  subst hgn
  have hle := hdN_le fl
  have e36 : ∀ (t0 t1 : Nat), t1 + t0 = hdN fl → j_FR_readHead_36 N (nI a) (nI t0) (nI t1) (nI j) (nI j) pl (nI kg) gf = if kg < j + hdN fl + 1 then some (1, nI j, nI j, nI kg) else if G (j + hdN fl) = vN (sumS G a (j + hdN fl - a)) / 2 ^ 8 % 256 then some (0, nI (j + hdN fl + 1), nI j, pl) else some (6, nI (j + hdN fl), nI j, nI (j + hdN fl)) := by
    intro t0 t1 et
    rw [j_FR_readHead_36, bd1_of (s_left _ _), pk_sub hj, nI_add, et, show nI (hdN fl) + (1 : Int32) = nI (hdN fl + 1) from nI_1 _]
    by_cases c1 : kg < j + hdN fl + 1
    · rw [if_neg (show ¬ nI (hdN fl + 1) ≤ nI (kg - j) from nI_ge (by omega) (by omega)), if_pos c1, bd2_of (s_fcut _)]
    · have e1 := s_get hG (j := j + hdN fl) (by omega)
      have hb := (hG.2.2.2 (j + hdN fl) (by omega)).1
      have e2 := s_sum (N := N) (by omega) hG (a := a) (e := j + hdN fl) (by omega) (by omega)
      have e3 : ∀ h : Int32, (h >>> ((8 : Int32) &&& 31)) &&& (255 : Int32) = nI (vN h / 2 ^ 8 % 256) := fun h => by
        rw [← lo8_sr (x := h) (k := 8) (by decide)]
        exact pk_and _ 8 (by decide)
      rw [if_pos (show nI (hdN fl + 1) ≤ nI (kg - j) from nI_le (by omega) (by omega)), if_neg c1, nI_add, bd1_of e1, bd1_of e2, e3]
      have hv : vN (sumS G a (j + hdN fl - a)) / 2 ^ 8 % 256 < 256 := Nat.mod_lt _ (by decide)
      generalize vN (sumS G a (j + hdN fl - a)) / 2 ^ 8 % 256 = v at *
      by_cases c2 : G (j + hdN fl) = v
      · rw [if_pos (show nI (G (j + hdN fl)) = nI v from by rw [c2]), if_pos c2, show nI (j + hdN fl) + (1 : Int32) = nI (j + hdN fl + 1) from nI_1 _]
      · rw [if_neg (show ¬ nI (G (j + hdN fl)) = nI v from fun z => c2 ((nI_eq (by omega) (by omega)).mp z)), if_neg c2, bd2_of (s_ffault _ _)]
  have e23 : ∀ t1 : Nat, t1 = (if fl &&& (8 : Int32) = 0 then 0 else 8) → j_FR_readHead_23 N (nI a) (nI t1) (nI j) fl (nI j) pl (nI kg) gf = if kg < j + hdN fl + 1 then some (1, nI j, nI j, nI kg) else if G (j + hdN fl) = vN (sumS G a (j + hdN fl - a)) / 2 ^ 8 % 256 then some (0, nI (j + hdN fl + 1), nI j, pl) else some (6, nI (j + hdN fl), nI j, nI (j + hdN fl)) := by
    intro t1 et
    rw [j_FR_readHead_23, bd1_of (s_fhas _ _)]
    by_cases c1 : fl &&& (1 : Int32) = 0
    · have e4 := e36 0 t1 (by unfold hdN; rw [if_pos c1, et])
      rw [if_pos c1, if_pos z00]
      exact e4
    · have e4 := e36 4 t1 (by unfold hdN; rw [if_neg c1, et])
      rw [if_neg c1, if_neg n10]
      exact e4
  unfold f_FR_readHead
  rw [j_FR_readHead_0, bd1_of (s_fhas _ _)]
  by_cases c1 : fl &&& (8 : Int32) = 0
  · have e4 := e23 0 (if_pos c1).symm
    rw [if_pos c1, if_pos z00]
    exact e4
  · have e4 := e23 8 (if_neg c1).symm
    rw [if_neg c1, if_neg n10]
    exact e4
theorem s_frm {N kg kh most j c : Nat} {G H C : Nat → Nat} {gn hsn tn fl0 gr0 sz0 pl b1 b2 b3 b4 b5 b6 : Int32} {gf hsf tf : Nat → Int32} (hN : 20010 < N) (hm : most ≤ 8000) (hG : Rw 8000 kg gn gf G) (hH : Rw 8000 kh hsn hsf H) (hT : Rw 8000 c tn tf C) (hc : c ≤ most) (hj : j + 4 ≤ kg) : ∃ at' fl' gr' sz' st' pl' d1 d2 d3 d4 d5 d6 tn' tf', f_FR_readFrame N (nI j) (nI most) fl0 gr0 sz0 pl b1 b2 b3 b4 b5 b6 gn gf hsn hsf tn tf = some (nI (frm G H kg kh most (j + 4) c C).1, at', fl', gr', sz', st', pl', d1, d2, d3, d4, d5, d6, tn', tf') ∧ Ft kg most (j + 4) c (frm G H kg kh most (j + 4) c C) at' pl' tn' tf' := by
  have hk := hG.2.1
  have hgn := hG.1
  subst hgn
  obtain ⟨N', rfl⟩ : ∃ z, N = z + 1 := ⟨N - 1, by omega⟩
  have e44 : ∀ (t : Nat) (a fl gr sz st p : Int32), 1 ≤ t → t ≤ 11 → j_FR_readFrame_44 (N' + 1) (nI t) a (nI most) fl gr sz st p b1 b2 b3 b4 b5 b6 (nI kg) gf hsn hsf tn tf = some (nI t, a, fl, gr, sz, st, p, b1, b2, b3, b4, b5, b6, tn, tf) := fun t a fl gr sz st p h1 h2 => by
    rw [j_FR_readFrame_44, s_50No (nI_ne0 (by omega) (by omega))]
  have eF := s_flags (fl0 := fl0) (gr0 := gr0) (pl := pl) hG (j := j + 4) hj
  unfold f_FR_readFrame
  rw [j_FR_readFrame_0, bd1_of (s_count _), show nI j + (4 : Int32) = nI (j + 4) from nI_add j 4, frm]
  by_cases c1 : kg < j + 4 + 1
  · rw [if_pos c1] at eF
    rw [bd5_of eF, if_neg n10, show (1 : Int32) = nI 1 from rfl, e44 1 _ _ _ _ _ _ (by decide) (by decide), if_pos c1]
    exact ⟨_, _, _, _, _, _, _, _, _, _, _, _, _, _, rfl, Ft.no (by decide) (by decide) rfl hT⟩
  rw [if_neg c1] at eF ⊢
  by_cases c2 : ¬ nI (G (j + 4)) &&& (-62 : Int32) = 64
  · rw [if_pos c2] at eF
    rw [bd5_of eF, if_neg (by decide), show (5 : Int32) = nI 5 from rfl, e44 5 _ _ _ _ _ _ (by decide) (by decide), if_pos c2]
    exact ⟨_, _, _, _, _, _, _, _, _, _, _, _, _, _, rfl, Ft.no (by decide) (by decide) rfl hT⟩
  rw [if_neg c2] at eF ⊢
  by_cases c3 : kg < j + 4 + 2
  · rw [if_pos c3] at eF
    rw [bd5_of eF, if_neg n10, show (1 : Int32) = nI 1 from rfl, e44 1 _ _ _ _ _ _ (by decide) (by decide), if_pos c3]
    exact ⟨_, _, _, _, _, _, _, _, _, _, _, _, _, _, rfl, Ft.no (by decide) (by decide) rfl hT⟩
  rw [if_neg c3] at eF ⊢
  by_cases c4 : G (j + 4 + 1) / 16 < 4 ∨ 7 < G (j + 4 + 1) / 16 ∨ ¬ G (j + 4 + 1) % 16 = 0
  · rw [if_pos c4] at eF
    rw [bd5_of eF, if_neg (by decide), show (5 : Int32) = nI 5 from rfl, e44 5 _ _ _ _ _ _ (by decide) (by decide), if_pos c4]
    exact ⟨_, _, _, _, _, _, _, _, _, _, _, _, _, _, rfl, Ft.no (by decide) (by decide) rfl hT⟩
  rw [if_neg c4] at eF ⊢
  have eH := s_rhead (N := N' + 1) (fl := nI (G (j + 4))) (pl := pl) hN hG (a := j + 4) (j := j + 4 + 2) (by omega) (by omega)
  rw [bd5_of eF, if_pos z00]
  have hgr := (grt_ok (q := G (j + 4 + 1) / 16) (by omega) (by omega)).2
  generalize 2 ^ (8 + 2 * (G (j + 4 + 1) / 16)) = gr at *
  generalize hfl : nI (G (j + 4)) = fl at *
  have hle := hdN_le fl
  rw [show j + 4 + 2 + hdN fl - (j + 4) = 2 + hdN fl from by omega] at eH
  by_cases c5 : kg < j + 4 + 2 + hdN fl + 1
  · rw [if_pos c5] at eH
    rw [bd4_of eH, show (1 : Int32) = nI 1 from rfl, e44 1 _ _ _ _ _ _ (by decide) (by decide), if_pos c5]
    exact ⟨_, _, _, _, _, _, _, _, _, _, _, _, _, _, rfl, Ft.no (by decide) (by decide) rfl hT⟩
  rw [if_neg c5] at eH ⊢
  by_cases c6 : G (j + 4 + 2 + hdN fl) = vN (sumS G (j + 4) (2 + hdN fl)) / 2 ^ 8 % 256
  · rw [if_pos c6] at eH ⊢
    have hsz : ¬ fl &&& (8 : Int32) = 0 → j + 4 + 2 + 8 ≤ kg := fun z => by
      have : 8 ≤ hdN fl := by unfold hdN; rw [if_neg z]; omega
      omega
    rw [bd4_of eH, j_FR_readFrame_44, hT.1]
    obtain ⟨at', pl', d1, d2, d3, d4, d5, d6, tn', tf', e, g⟩ := s_blocks (N := N' + 1) (st := c) (sz := j + 4 + 2) (fl := fl) hN hm hG hH hgr hsz 8000 (N' + 1) 20001 (j + 4 + 2 + hdN fl + 1) (j + 4 + 2 + hdN fl + 1) c C pl b1 b2 b3 b4 b5 b6 tn tf (by omega) (by omega) (by omega) (Nat.le_refl _) (by omega) (Nat.le_refl _) hc hT
    rw [hT.1] at e
    exact ⟨_, _, _, _, _, _, _, _, _, _, _, _, _, _, e, g.from (by omega) (Nat.le_refl _)⟩
  · rw [if_neg c6] at eH ⊢
    rw [bd4_of eH, show (6 : Int32) = nI 6 from rfl, e44 6 _ _ _ _ _ _ (by decide) (by decide)]
    exact ⟨_, _, _, _, _, _, _, _, _, _, _, _, _, _, rfl, Ft.no (by decide) (by decide) rfl hT⟩
