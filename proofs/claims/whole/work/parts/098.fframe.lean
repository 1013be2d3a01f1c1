/-! A frame: the class. -/
theorem s_sizeIs {kg sz n : Nat} {G : Nat → Nat} {gn : Int32} {gf : Nat → Int32} (hG : Rw 8000 kg gn gf G) (hs : sz + 8 ≤ kg) (hn : n ≤ 8000) : f_FR_sizeIs (nI n) (nI sz) gn gf = some (if W4 G sz = n ∧ W4 G (sz + 4) = 0 then 1 else 0) := by
  have e1 := s_word hG (j := sz) (by omega)
  have e2 := s_word hG (j := sz + 4) (by omega)
  have w1 := W4_lt hG (j := sz) (by omega)
  have w2 := W4_lt hG (j := sz + 4) (by omega)
  unfold f_FR_sizeIs
  rw [j_FR_sizeIs_0, bd1_of e1, show nI sz + (4 : Int32) = nI (sz + 4) from nI_add sz 4]
  generalize W4 G sz = p at *
  generalize W4 G (sz + 4) = q at *
  by_cases c1 : p = n
  · rw [if_pos (show nI p = nI n from by rw [c1]), bd1_of e2]
    by_cases c2 : q = 0
    · rw [if_pos (show nI q = 0 from by rw [c2]; rfl), if_pos ⟨c1, c2⟩]
    · rw [if_neg (show ¬ nI q = 0 from fun z => c2 ((nI_eq32 (b := 0) (by omega) (by decide)).mp z)), if_neg (fun z => c2 z.2)]
  · rw [if_neg (show ¬ nI p = nI n from fun z => c1 ((nI_eq32 (by omega) (by omega)).mp z)), if_neg (fun z => c1 z.1)]
theorem s_sz {kg most sz st j c : Nat} {G C : Nat → Nat} {fl gn tn pl : Int32} {gf tf : Nat → Int32} (hm : most ≤ 8000) (hG : Rw 8000 kg gn gf G) (hT : Rw 8000 c tn tf C) (hs : st ≤ c) (hc : c ≤ most) (hj : j ≤ kg) (hsz : ¬ fl &&& (8 : Int32) = 0 → sz + 8 ≤ kg) : ∃ at' pl', j_FR_readTail_74 (nI j) fl (nI sz) (nI st) pl gn gf tn = some (nI (szR G fl sz st j c C).1, at', pl') ∧ Ft kg most j c (szR G fl sz st j c C) at' pl' tn tf := by
  rw [j_FR_readTail_74, bd1_of (s_fhas _ _), szR]
  by_cases c1 : fl &&& (8 : Int32) = 0
  · rw [if_pos c1, if_pos z00, if_pos c1]
    exact ⟨_, _, rfl, Ft.yes rfl hT (Nat.le_refl _) hj (Nat.le_refl _) hc⟩
  · rw [if_neg c1, if_neg n10, if_neg c1, bd1_of (s_count _)]
    have e := s_sizeIs hG (hsz c1) (n := c - st) (by omega)
    rw [hT.1, pk_sub hs, bd1_of e]
    by_cases c2 : W4 G sz = c - st ∧ W4 G (sz + 4) = 0
    · rw [if_pos c2, if_neg n10, if_pos c2]
      exact ⟨_, _, rfl, Ft.yes rfl (by rw [← hT.1]; exact hT) (Nat.le_refl _) hj (Nat.le_refl _) hc⟩
    · rw [if_neg c2, if_pos z00, if_neg c2, bd2_of (s_ffault _ _)]
      exact ⟨_, _, rfl, Ft.no (by decide) (by decide) rfl (by rw [← hT.1]; exact hT)⟩
theorem s_tail {N kg most sz st j c : Nat} {G C : Nat → Nat} {fl gn tn pl : Int32} {gf tf : Nat → Int32} (hN : 20010 < N) (hm : most ≤ 8000) (hG : Rw 8000 kg gn gf G) (hT : Rw 8000 c tn tf C) (hs : st ≤ c) (hc : c ≤ most) (hj : j ≤ kg) (hsz : ¬ fl &&& (8 : Int32) = 0 → sz + 8 ≤ kg) : ∃ at' pl', f_FR_readTail N (nI j) fl (nI sz) (nI st) pl gn gf tn tf = some (nI (tlR G kg fl sz st j c C).1, at', pl') ∧ Ft kg most j c (tlR G kg fl sz st j c C) at' pl' tn tf := by
  have hk := hG.2.1
  unfold f_FR_readTail
  rw [j_FR_readTail_0, bd1_of (s_fhas _ _), tlR]
  by_cases c1 : fl &&& (4 : Int32) = 0
  · rw [if_pos c1, if_pos z00, if_pos c1]
    exact s_sz hm hG hT hs hc hj hsz
  · rw [if_neg c1, if_neg n10, if_neg c1, bd1_of (s_left _ _)]
    have hgn := hG.1
    subst hgn
    rw [pk_sub hj]
    by_cases c2 : kg < j + 4
    · rw [if_neg (show ¬ (4 : Int32) ≤ nI (kg - j) from nI_ge (b := 4) (by omega) (by decide)), if_pos c2, bd2_of (s_fcut _)]
      exact ⟨_, _, rfl, Ft.no (by decide) (by decide) rfl hT⟩
    · have e1 := s_word hG (j := j) (by omega)
      have e2 := s_sum (N := N) (by omega) hT (a := st) (e := c) hs (Nat.le_refl _)
      rw [if_pos (show (4 : Int32) ≤ nI (kg - j) from nI_le (a := 4) (by omega) (by omega)), if_neg c2, bd1_of e1, bd1_of (s_count _)]
      have e2 : f_Sum_of N 8000 (nI st) tn tn tf = some (sumS C st (c - st)) := by rw [← hT.1] at e2; exact e2
      rw [bd1_of e2]
      by_cases c3 : nI (W4 G j) = sumS C st (c - st)
      · rw [if_pos c3, if_pos c3, show nI j + (4 : Int32) = nI (j + 4) from nI_add j 4]
        obtain ⟨at', pl', e, g⟩ := s_sz (pl := pl) (tf := tf) hm hG hT hs hc (j := j + 4) (by omega) hsz
        refine ⟨at', pl', e, g.1, g.2.1, fun z => ?_⟩
        obtain ⟨g1, g2, g3, g4, g5, g6⟩ := g.2.2 z
        exact ⟨g1, g2, by omega, g4, g5, g6⟩
      · rw [if_neg c3, if_neg c3, bd2_of (s_ffault _ _)]
        exact ⟨_, _, rfl, Ft.no (by decide) (by decide) rfl hT⟩
theorem loop12_s {α1 α2 α3 α4 α5 α6 α7 α8 α9 α10 α11 α12 ρ : Type} (b : (α1 → α2 → α3 → α4 → α5 → α6 → α7 → α8 → α9 → α10 → α11 → α12 → Option ρ) → α1 → α2 → α3 → α4 → α5 → α6 → α7 → α8 → α9 → α10 → α11 → α12 → Option ρ) (n : Nat) (x1 : α1) (x2 : α2) (x3 : α3) (x4 : α4) (x5 : α5) (x6 : α6) (x7 : α7) (x8 : α8) (x9 : α9) (x10 : α10) (x11 : α11) (x12 : α12) : loop12 b (n + 1) x1 x2 x3 x4 x5 x6 x7 x8 x9 x10 x11 x12 = b (loop12 b n) x1 x2 x3 x4 x5 x6 x7 x8 x9 x10 x11 x12 := rfl
theorem Ft.from {kg most j j' c c' : Nat} {R : Rfr} {at' pl' tn' : Int32} {tf' : Nat → Int32} (g : Ft kg most j c R at' pl' tn' tf') (hj : j' ≤ j) (hc : c' ≤ c) : Ft kg most j' c' R at' pl' tn' tf' := ⟨g.1, g.2.1, fun z => by
  obtain ⟨g1, g2, g3, g4, g5, g6⟩ := g.2.2 z
  exact ⟨g1, g2, by omega, g4, by omega, g6⟩⟩
theorem s_50No {N fuel : Nat} {r most fl gr sz st i a pl b1 b2 b3 b4 b5 b6 gn hsn tn : Int32} {gf hsf tf : Nat → Int32} (hr : ¬ r = 0) : loop12 (b_FR_readFrame_50 N most fl gr sz st gn gf hsn hsf) (fuel + 1) r i a pl b1 b2 b3 b4 b5 b6 tn tf = some (r, a, fl, gr, sz, st, pl, b1, b2, b3, b4, b5, b6, tn, tf) := by
  rw [loop12_s, b_FR_readFrame_50, bd1_of (s_count _)]
  by_cases c : gn ≤ i
  · rw [if_pos c, j_FR_readFrame_124, if_neg hr]
  · rw [if_neg c, if_neg hr, j_FR_readFrame_124, if_neg hr]
theorem s_blocks {N kg kh most gr sz st : Nat} {G H : Nat → Nat} {fl gn hsn : Int32} {gf hsf : Nat → Int32} (hN : 20010 < N) (hm : most ≤ 8000) (hG : Rw 8000 kg gn gf G) (hH : Rw 8000 kh hsn hsf H) (hgr : gr < 8388608) (hsz : ¬ fl &&& (8 : Int32) = 0 → sz + 8 ≤ kg) : ∀ (m fuel F i j c : Nat) (C : Nat → Nat) (pl b1 b2 b3 b4 b5 b6 tn : Int32) (tf : Nat → Int32), kg - j ≤ m → m + 1 < fuel → m < F → i ≤ j → j ≤ kg → st ≤ c → c ≤ most → Rw 8000 c tn tf C → ∃ at' pl' d1 d2 d3 d4 d5 d6 tn' tf', loop12 (b_FR_readFrame_50 N (nI most) fl (nI gr) (nI sz) (nI st) gn gf hsn hsf) fuel 0 (nI i) (nI j) pl b1 b2 b3 b4 b5 b6 tn tf = some (nI (prts G H kg kh most fl gr sz st F j c C).1, at', fl, nI gr, nI sz, nI st, pl', d1, d2, d3, d4, d5, d6, tn', tf') ∧ Ft kg most j c (prts G H kg kh most fl gr sz st F j c C) at' pl' tn' tf' := by
  have hk := hG.2.1
  have hgn := hG.1
  subst hgn
  intro m
  induction m with
  | zero =>
    intro fuel F i j c C pl b1 b2 b3 b4 b5 b6 tn tf h1 h2 h3 hi hj hs hc hT
    obtain ⟨fuel, rfl⟩ : ∃ z, fuel = z + 1 := ⟨fuel - 1, by omega⟩
    have ej : j = kg := by omega
    rw [prts_end (by omega), loop12_s, b_FR_readFrame_50, bd1_of (s_count _)]
    by_cases ci : kg ≤ i
    · rw [if_pos (nI_le ci (by omega)), j_FR_readFrame_124, if_pos z00, bd2_of (s_fcut _)]
      exact ⟨_, _, _, _, _, _, _, _, _, _, rfl, Ft.no (by decide) (by decide) rfl hT⟩
    · rw [if_neg (nI_ge (by omega) (by omega)), if_pos z00, bd1_of (s_left _ _), pk_sub hj, if_neg (show ¬ (4 : Int32) ≤ nI (kg - j) from nI_ge (b := 4) (by omega) (by decide)), bd2_of (s_fcut _)]
      exact ⟨_, _, _, _, _, _, _, _, _, _, rfl, Ft.no (by decide) (by decide) rfl hT⟩
  | succ m ih =>
    intro fuel F i j c C pl b1 b2 b3 b4 b5 b6 tn tf h1 h2 h3 hi hj hs hc hT
    obtain ⟨fuel, rfl⟩ : ∃ z, fuel = z + 2 := ⟨fuel - 2, by omega⟩
    obtain ⟨F, rfl⟩ : ∃ z, F = z + 1 := ⟨F - 1, by omega⟩
    by_cases ci : kg ≤ i
    · rw [prts_end (by omega), loop12_s, b_FR_readFrame_50, bd1_of (s_count _), if_pos (nI_le ci (by omega)), j_FR_readFrame_124, if_pos z00, bd2_of (s_fcut _)]
      exact ⟨_, _, _, _, _, _, _, _, _, _, rfl, Ft.no (by decide) (by decide) rfl hT⟩
    · rw [loop12_s, b_FR_readFrame_50, bd1_of (s_count _), if_neg (nI_ge (by omega) (by omega)), if_pos z00, bd1_of (s_left _ _), pk_sub hj, prts_s]
      by_cases c4 : kg < j + 4
      · rw [if_neg (show ¬ (4 : Int32) ≤ nI (kg - j) from nI_ge (b := 4) (by omega) (by decide)), bd2_of (s_fcut _), if_pos c4]
        exact ⟨_, _, _, _, _, _, _, _, _, _, rfl, Ft.no (by decide) (by decide) rfl hT⟩
      · have e1 := s_word hG (j := j) (by omega)
        have hw := W4_lt hG (j := j) (by omega)
        rw [if_pos (show (4 : Int32) ≤ nI (kg - j) from nI_le (a := 4) (by omega) (by omega)), if_neg c4, bd1_of e1]
        generalize W4 G j = w at *
        by_cases c0 : w = 0
        · rw [if_pos (show nI w = 0 from by rw [c0]; rfl), if_pos c0, show nI j + (4 : Int32) = nI (j + 4) from nI_add j 4]
          obtain ⟨at', pl', e, g⟩ := s_tail (N := N) (pl := pl) hN hm hG hT hs hc (j := j + 4) (by omega) hsz
          rw [bd3_of e]
          exact ⟨_, _, _, _, _, _, _, _, _, _, rfl, g.from (by omega) (Nat.le_refl _)⟩
        · rw [if_neg (show ¬ nI w = 0 from fun z => c0 ((nI_eq32 (b := 0) (by omega) (by decide)).mp z)), if_neg c0]
          obtain ⟨at', pl', d1, d2, d3, d4, d5, d6, tn', tf', e, g⟩ := s_prt (N := N) (fl := fl) (pl := pl) (b1 := b1) (b2 := b2) (b3 := b3) (b4 := b4) (b5 := b5) (b6 := b6) hN hm hG hH hT hs hc hw hgr (j := j) (by omega)
          rw [bd11_of e]
          generalize prt G H kg kh most fl gr st w j c C = R at *
          by_cases c5 : R.1 = 0
          · obtain ⟨g1, g2, g3, g4, g5, g6⟩ := g.2.2 c5
            rw [if_pos c5, c5, g1, nI_1]
            obtain ⟨at2, pl2, x1, x2, x3, x4, x5, x6, tn2, tf2, e2, gg⟩ := ih (fuel + 1) F (i + 1) R.2.2.1 R.2.2.2.1 R.2.2.2.2 pl' d1 d2 d3 d4 d5 d6 tn' tf' (by omega) (by omega) (by omega) (by omega) g4 (by omega) g6 g2
            exact ⟨_, _, _, _, _, _, _, _, _, _, e2, gg.from (by omega) g5⟩
          · have hR := g.1
            rw [if_neg c5, s_50No (nI_ne0 (by omega) (by omega))]
            exact ⟨_, _, _, _, _, _, _, _, _, _, rfl, g.from (by omega) (Nat.le_refl _)⟩
