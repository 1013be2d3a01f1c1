/-! A block of a frame: the class. -/
theorem s_ffault (a b : Int32) : f_FR_fault a b = some (a, b) := rfl
theorem s_fcut (gn : Int32) : f_FR_cut gn = some (1, gn) := by
  unfold f_FR_cut
  rw [j_FR_cut_0, bd1_of (s_count _), bd2_of (s_ffault _ _)]
theorem s_left (a gn : Int32) : f_FR_left a gn = some (gn - a) := by
  unfold f_FR_left
  rw [j_FR_left_0, bd1_of (s_count _)]
theorem s_fhas (a fl : Int32) : f_FR_has a fl = some (if fl &&& a = 0 then 0 else 1) := by
  unfold f_FR_has
  rw [j_FR_has_0]
  by_cases c : fl &&& a = 0
  · rw [if_pos c, if_pos c]
  · rw [if_neg c, if_neg c]
theorem s_182 {N kg kh most s0 a m c b j : Nat} {G H C : Nat → Nat} {gn hsn tn bd bp : Int32} {gf hsf tf : Nat → Int32} (hN : 20010 < N) (hm : most ≤ 8000) (hG : Rw 8000 kg gn gf G) (hH : Rw 8000 kh hsn hsf H) (hT : Rw 8000 c tn tf C) (hs : s0 ≤ c) (hc : c ≤ most) (he : a + m ≤ kg) (hb : a + m ≤ b) (hbk : b ≤ kg) (hj : j ≤ a) : ∃ pl' b1 b2 b3 b4 b5 b6 tn' tf', j_FR_readBlock_182 N (nI s0) (nI (a + m)) (nI a) (nI b) (nI most) bd bp gn gf hsn hsf tn tf = some (nI (frR (bkR G H kh most s0 m a c C) kh s0 c b C).1, nI b, pl', b1, b2, b3, b4, b5, b6, tn', tf') ∧ Ft kg most j c (frR (bkR G H kh most s0 m a c C) kh s0 c b C) (nI b) pl' tn' tf' := by
  have hk := hG.2.1
  have hkh := hH.2.1
  obtain ⟨at', bd', tn', tf', e2, h2, h3⟩ := read_loop (N := N) (by omega) hG hH (e := a + m) he hm (lim := kh + most - s0) (st := s0) (k0 := c) (T0 := C) (by omega) m N 20001 a a (kh + (c - s0)) (virt H kh C s0) bd bp tn tf (by omega) (by omega) (by omega) (Nat.le_refl _) (by omega) (by omega) (To.start hT hs)
  have hf : (bkR G H kh most s0 m a c C).1 ≤ 3 := rd_fault _ _ _ _ _ _ _
  have e2 : f_BR_read N (nI a) (nI (a + m)) (nI s0) (nI most) bd bp gn gf hsn hsf tn tf = some (nI (bkR G H kh most s0 m a c C).1, at', nI (a + m), nI s0, nI most, bd', nI (bkR G H kh most s0 m a c C).2.1, tn', tf') := e2
  have h2 : To H kh s0 c C (bkR G H kh most s0 m a c C).2.2.1 (bkR G H kh most s0 m a c C).2.2.2 tn' tf' := h2
  have h3 : (bkR G H kh most s0 m a c C).2.2.1 ≤ kh + most - s0 := h3
  generalize bkR G H kh most s0 m a c C = R at *
  obtain ⟨kt, T, g1, g2, g3, g4, g5, g6⟩ := h2
  rw [j_FR_readBlock_182, bd9_of e2]
  have e5 : ∀ t, j_FR_readBlock_205 t (nI b) at' (nI (a + m)) (nI s0) (nI most) bd' (nI R.2.1) tn' tf' = some (t, nI b, nI R.2.1, at', nI (a + m), nI s0, nI most, bd', nI R.2.1, tn', tf') := fun t => by rw [j_FR_readBlock_205, bd1_of (s_where _), bd2_of (s_ffault _ _)]
  by_cases c1 : R.1 = 1
  · have e9 : (frR R kh s0 c b C).1 = 9 := if_pos c1
    rw [if_pos (show nI R.1 = 1 from by rw [c1]; rfl), e5, e9]
    exact ⟨_, _, _, _, _, _, _, _, _, rfl, by rw [e9]; decide, fun _ => ⟨rfl, _, _, g1⟩, fun e => by rw [e9] at e; omega⟩
  · have e9 : (frR R kh s0 c b C).1 = R.1 := if_neg c1
    rw [if_neg (show ¬ nI R.1 = 1 from fun z => c1 ((nI_eq (a := R.1) (b := 1) (by omega) (by decide)).mp z)), e5, e9]
    refine ⟨_, _, _, _, _, _, _, _, _, rfl, by rw [e9]; omega, fun _ => ⟨rfl, _, _, g1⟩, fun _ => ⟨rfl, ?_, by show j ≤ b; omega, hbk, by show c ≤ c + _; omega, by show c + (R.2.2.1 - (kh + (c - s0))) ≤ most; omega⟩⟩
    show Rw 8000 (c + (R.2.2.1 - (kh + (c - s0)))) tn' tf' (fun i => if i < c then C i else R.2.2.2 (kh + (i - s0)))
    rw [show c + (R.2.2.1 - (kh + (c - s0))) = kt from by omega]
    refine g1.congr (fun i hi => ?_)
    show T i = if i < c then C i else R.2.2.2 (kh + (i - s0))
    by_cases ci : i < c
    · rw [if_pos ci, g6 i ci]
    · rw [if_neg ci, g5 (kh + (i - s0)) (by omega)]
      unfold virt
      rw [if_neg (by omega)]
      congr 1
      omega
theorem s_take {kg most a m c : Nat} {G C : Nat → Nat} {gn tn pl : Int32} {gf tf : Nat → Int32} (hm : most ≤ 8000) (hG : Rw 8000 kg gn gf G) (hT : Rw 8000 c tn tf C) (hc : c ≤ most) (he : a + m ≤ kg) (hr : c + m ≤ most) : ∃ tn' tf', f_FR_takeBytes (nI a) (nI (a + m)) (nI most) pl gn gf tn tf = some (0, pl, tn', tf') ∧ Rw 8000 (c + m) tn' tf' (catB C c G a) := by
  have hk := hG.2.1
  obtain ⟨f', e, g⟩ := s_addFrom hT hG (a := a) (b := a + m) (by omega) he (by omega)
  rw [show a + m - a = m from by omega] at e g
  unfold f_FR_takeBytes
  rw [j_FR_takeBytes_0, bd1_of (s_count _), pk_sub (by omega), show a + m - a = m from by omega, hT.1, pk_sub hc, if_pos (nI_le (by omega) (by omega)), ← hT.1, bd3_of e]
  exact ⟨_, _, rfl, g⟩
theorem s_takeNo {kg most a m c : Nat} {G C : Nat → Nat} {gn tn pl : Int32} {gf tf : Nat → Int32} (hm : most ≤ 8000) (hG : Rw 8000 kg gn gf G) (hT : Rw 8000 c tn tf C) (hc : c ≤ most) (he : a + m ≤ kg) (hr : most - c < m) : f_FR_takeBytes (nI a) (nI (a + m)) (nI most) pl gn gf tn tf = some (3, nI (a + (most - c)), tn, tf) := by
  have hk := hG.2.1
  unfold f_FR_takeBytes
  rw [j_FR_takeBytes_0, bd1_of (s_count _), pk_sub (by omega), show a + m - a = m from by omega, hT.1, pk_sub hc, if_neg (nI_ge hr (by omega)), bd2_of (s_ffault _ _), nI_add]
theorem s_122 {N kg kh most st w m a sb c j : Nat} {G H C : Nat → Nat} {fl gn hsn tn pl b1 b2 b3 b4 b5 b6 : Int32} {gf hsf tf : Nat → Int32} (hN : 20010 < N) (hm : most ≤ 8000) (hG : Rw 8000 kg gn gf G) (hH : Rw 8000 kh hsn hsf H) (hT : Rw 8000 c tn tf C) (hs : st ≤ c) (hc : c ≤ most) (hw : w < 4294967296) (he : a + m + sb ≤ kg) (hj : j ≤ a) : ∃ at' pl' d1 d2 d3 d4 d5 d6 tn' tf', j_FR_readBlock_122 N (nI w) (nI sb) (nI a) (nI (a + m)) (nI most) fl (nI st) pl b1 b2 b3 b4 b5 b6 gn gf hsn hsf tn tf = some (nI (prt2 G H kh most fl st w m a (a + m + sb) c C).1, at', pl', d1, d2, d3, d4, d5, d6, tn', tf') ∧ Ft kg most j c (prt2 G H kh most fl st w m a (a + m + sb) c C) at' pl' tn' tf' := by
  have hk := hG.2.1
  rw [j_FR_readBlock_122, prt2]
  by_cases cw : 2147483648 ≤ w
  · rw [if_neg (neg31 cw hw), if_pos cw]
    by_cases cm : most - c < m
    · rw [if_pos cm, bd4_of (s_takeNo hm hG hT hc (by omega) cm)]
      exact ⟨_, _, _, _, _, _, _, _, _, _, rfl, Ft.no (by decide) (by decide) rfl hT⟩
    · obtain ⟨tn', tf', e, g⟩ := s_take (pl := pl) hm hG hT hc (a := a) (m := m) (by omega) (by omega)
      rw [if_neg cm, bd4_of e, nI_add]
      exact ⟨_, _, _, _, _, _, _, _, _, _, rfl, Ft.yes rfl g (by omega) he (by omega) (by omega)⟩
  · rw [if_pos (show (0 : Int32) ≤ nI w from nI_pos' (by omega)), if_neg cw, bd1_of (s_fhas _ _), nI_add]
    by_cases cf : fl &&& (32 : Int32) = 0
    · rw [if_pos cf, if_pos z00, if_pos cf]
      obtain ⟨pl', d1, d2, d3, d4, d5, d6, tn', tf', e, g⟩ := s_182 (N := N) (bd := b5) (bp := b6) hN hm hG hH hT hs hc (a := a) (m := m) (b := a + m + sb) (by omega) (by omega) he hj
      exact ⟨_, _, _, _, _, _, _, _, _, _, e, g⟩
    · rw [if_neg cf, if_neg n10, if_neg cf, bd1_of (s_count _), hT.1]
      obtain ⟨pl', d1, d2, d3, d4, d5, d6, tn', tf', e, g⟩ := s_182 (N := N) (bd := b5) (bp := b6) hN hm hG hH hT (Nat.le_refl c) hc (a := a) (m := m) (b := a + m + sb) (by omega) (by omega) he hj
      rw [hT.1] at e
      exact ⟨_, _, _, _, _, _, _, _, _, _, e, g⟩
theorem s_prt {N kg kh most gr st w j c : Nat} {G H C : Nat → Nat} {fl gn hsn tn pl b1 b2 b3 b4 b5 b6 : Int32} {gf hsf tf : Nat → Int32} (hN : 20010 < N) (hm : most ≤ 8000) (hG : Rw 8000 kg gn gf G) (hH : Rw 8000 kh hsn hsf H) (hT : Rw 8000 c tn tf C) (hs : st ≤ c) (hc : c ≤ most) (hw : w < 4294967296) (hgr : gr < 8388608) (hj : j + 4 ≤ kg) : ∃ at' pl' d1 d2 d3 d4 d5 d6 tn' tf', f_FR_readBlock N (nI w) (nI j) (nI most) fl (nI gr) (nI st) pl b1 b2 b3 b4 b5 b6 gn gf hsn hsf tn tf = some (nI (prt G H kg kh most fl gr st w j c C).1, at', pl', d1, d2, d3, d4, d5, d6, tn', tf') ∧ Ft kg most (j + 4) c (prt G H kg kh most fl gr st w j c C) at' pl' tn' tf' := by
  have hk := hG.2.1
  have e31 : nI w &&& (2147483647 : Int32) = nI (w % 2147483648) := pk_andN (n := w) hw (m := 2147483647) 31 (by decide)
  have hmm : w % 2147483648 < 2147483648 := Nat.mod_lt _ (by decide)
  unfold f_FR_readBlock
  rw [j_FR_readBlock_0, e31, prt]
  generalize w % 2147483648 = m at *
  by_cases c1 : gr < m
  · rw [if_neg (nI_ge c1 hmm), if_pos c1, bd2_of (s_ffault _ _)]
    exact ⟨_, _, _, _, _, _, _, _, _, _, rfl, Ft.no (by decide) (by decide) rfl hT⟩
  · rw [if_pos (nI_le (by omega) (by omega)), if_neg c1, bd1_of (s_fhas _ _), show nI j + (4 : Int32) = nI (j + 4) from nI_add j 4]
    have hsb := sbN_le fl
    have e48 : ∃ at' pl' d1 d2 d3 d4 d5 d6 tn' tf', j_FR_readBlock_48 N (nI w) (nI m) (nI (sbN fl)) (nI (j + 4)) (nI most) fl (nI st) pl b1 b2 b3 b4 b5 b6 gn gf hsn hsf tn tf = some (nI (prt1 G H kg kh most fl st w m j c C).1, at', pl', d1, d2, d3, d4, d5, d6, tn', tf') ∧ Ft kg most (j + 4) c (prt1 G H kg kh most fl st w m j c C) at' pl' tn' tf' := by
      rw [j_FR_readBlock_48, bd1_of (s_left _ _), hG.1, pk_sub hj, nI_add, nI_add, ← hG.1, prt1]
      by_cases c2 : kg < j + 4 + m + sbN fl
      · rw [if_neg (show ¬ nI (m + sbN fl) ≤ nI (kg - (j + 4)) from nI_ge (by omega) (by omega)), if_pos c2, bd2_of (s_fcut _)]
        exact ⟨_, _, _, _, _, _, _, _, _, _, rfl, Ft.no (by decide) (by decide) hG.1 hT⟩
      · rw [if_pos (show nI (m + sbN fl) ≤ nI (kg - (j + 4)) from nI_le (by omega) (by omega)), if_neg c2]
        by_cases c3 : fl &&& (16 : Int32) = 0
        · have es : sbN fl = 0 := if_pos c3
          rw [if_pos (show nI (sbN fl) ≤ 0 from by rw [es]; decide), if_neg (fun z => z.1 c3)]
          exact s_122 hN hm hG hH hT hs hc hw (by omega) (Nat.le_refl _)
        · have es : sbN fl = 4 := if_neg c3
          have e1 := s_word hG (j := j + 4 + m) (by omega)
          have e2 := s_sum (N := N) (by omega) hG (a := j + 4) (e := j + 4 + m) (by omega) (by omega)
          rw [show j + 4 + m - (j + 4) = m from by omega] at e2
          rw [if_neg (show ¬ nI (sbN fl) ≤ 0 from by rw [es]; decide), bd1_of e1, bd1_of e2]
          by_cases c4 : nI (W4 G (j + 4 + m)) = sumS G (j + 4) m
          · rw [if_pos c4, if_neg (fun z => z.2 c4)]
            exact s_122 hN hm hG hH hT hs hc hw (by omega) (Nat.le_refl _)
          · rw [if_neg c4, if_pos (show ¬ fl &&& (16 : Int32) = 0 ∧ ¬ nI (W4 G (j + 4 + m)) = sumS G (j + 4) m from ⟨c3, c4⟩), bd2_of (s_ffault _ _)]
            exact ⟨_, _, _, _, _, _, _, _, _, _, rfl, Ft.no (by decide) (by decide) rfl hT⟩
    by_cases c3 : fl &&& (16 : Int32) = 0
    · have es : sbN fl = 0 := if_pos c3
      rw [if_pos c3, if_pos z00]
      rw [es] at e48
      exact e48
    · have es : sbN fl = 4 := if_neg c3
      rw [if_neg c3, if_neg n10]
      rw [es] at e48
      exact e48
