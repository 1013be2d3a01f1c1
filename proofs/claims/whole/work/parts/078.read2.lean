/-! The class's reading of a block, whole. -/
theorem s_fault (a b : Int32) : f_BR_fault a b = some (a, b) := rfl
theorem s_takeDist {H G : Nat → Nat} {kh st k0 kg e j : Nat} {T0 : Nat → Nat} {v : Nat} {V : Nat → Nat} {tn gn hsn bp bd : Int32} {tf gf hsf : Nat → Int32} (h : To H kh st k0 T0 v V tn tf) (hG : Rw 8000 kg gn gf G) (hH : Rw 8000 kh hsn hsf H) (he : e ≤ kg) (hj : j ≤ e) : f_BR_takeDistance (nI j) (nI e) (nI st) bd bp gn gf hsn tn = if e < j + 2 then some (1, nI j, bd, nI e) else if G j + 256 * G (j + 1) = 0 ∨ v < G j + 256 * G (j + 1) then some (2, nI j, nI (G j + 256 * G (j + 1)), nI j) else some (0, nI (j + 2), nI (G j + 256 * G (j + 1)), bp) := by
  obtain ⟨kt, rfl, h4, h8, hst⟩ := To.count h
  have hk := hG.2.1
  have hkh := hH.2.1
  unfold f_BR_takeDistance
  rw [j_BR_takeDistance_0, pk_sub hj]
  by_cases c : e < j + 2
  · rw [if_neg (show ¬ (2 : Int32) ≤ nI (e - j) from nI_ge (b := 2) (by omega) (by decide)), if_pos c, bd2_of (s_fault _ _)]
  · have b0 := (hG.2.2.2 j (by omega)).1
    have b1 := (hG.2.2.2 (j + 1) (by omega)).1
    rw [if_pos (show (2 : Int32) ≤ nI (e - j) from nI_le (a := 2) (by omega) (by omega)), if_neg c, bd1_of (s_pair hG (j := j) (by omega))]
    have hd : G j + 256 * G (j + 1) ≤ 65535 := by omega
    generalize G j + 256 * G (j + 1) = d at *
    by_cases z : d = 0
    · rw [if_pos (show nI d = 0 from by rw [z]; rfl), if_pos (Or.inl z), j_BR_takeDistance_72, bd2_of (s_fault _ _)]
    · by_cases big : 2 ^ 31 ≤ d
      · exact absurd big (by omega)
      · rw [if_neg (show ¬ nI d = 0 from nI_ne0 (by omega) (by omega)), bd1_of (s_count _), bd1_of (s_count _), hH.1, nI_add, pk_sub (by omega), show kh + kt - st = v from by omega]
        by_cases y : v < d
        · rw [if_neg (nI_ge y (by omega)), if_pos (Or.inr y), j_BR_takeDistance_72, bd2_of (s_fault _ _)]
        · rw [if_pos (nI_le (by omega) (by omega)), if_neg (by omega), show nI j + (2 : Int32) = nI (j + 2) from nI_add j 2]
theorem s_takeCopy {N : Nat} {H : Nat → Nat} {kh st k0 e most lim d m x2 : Nat} {T0 : Nat → Nat} {v : Nat} {V : Nat → Nat} {tn hsn bp : Int32} {tf hsf : Nat → Int32} (hN : 20000 < N) (h : To H kh st k0 T0 v V tn tf) (hH : Rw 8000 kh hsn hsf H) (hm : most ≤ 8000) (hl : lim + st = kh + most) (hv : v ≤ lim) (hd1 : 1 ≤ d) (hd : d ≤ v) (hmm : m ≤ 2100000) : ∃ tn' tf', (if lim < v + (m + 4) then (tn' = tn ∧ tf' = tf) else To H kh st k0 T0 (v + (m + 4)) (perB V v d) tn' tf') ∧ f_BR_takeCopy N (nI m) (nI x2) (nI e) (nI st) (nI most) (nI d) bp hsn hsf tn tf = if lim < v + (m + 4) then some (3, nI x2, tn', tf') else some (0, bp, tn', tf') := by
  obtain ⟨kt, rfl, h4, h8, hst⟩ := To.count h
  have hkh := hH.2.1
  unfold f_BR_takeCopy
  rw [j_BR_takeCopy_0, if_pos (nI_pos' (by omega)), bd1_of (s_count _), show nI m + (4 : Int32) = nI (m + 4) from nI_add m 4, pk_sub (by omega)]
  by_cases c : lim < v + (m + 4)
  · rw [if_neg (nI_ge (by omega) (by omega)), bd2_of (s_fault _ _)]
    exact ⟨nI kt, tf, by rw [if_pos c]; exact ⟨rfl, rfl⟩, by rw [if_pos c]⟩
  · rw [if_pos (nI_le (by omega) (by omega))]
    have h' : To H kh st k0 T0 (v + 0) (perB V v d) (nI kt) tf := h.congr (fun j hj => by unfold perB; rw [if_pos hj])
    obtain ⟨tn', tf', e1, g⟩ := copy_loop (bp := bp) hH hd1 (by omega) (n := m + 4) hd (fun i hi => per_step hd1 hd hi) (by omega) (m + 4) N 0 (nI kt) tf (by omega) (by omega) h'
    exact ⟨tn', tf', by rw [if_neg c]; exact g, by rw [if_neg c]; exact e1⟩
theorem loop6_s {α β γ δ ε ζ ρ : Type} (b : (α → β → γ → δ → ε → ζ → Option ρ) → α → β → γ → δ → ε → ζ → Option ρ) (n : Nat) (x1 : α) (x2 : β) (x3 : γ) (x4 : δ) (x5 : ε) (x6 : ζ) : loop6 b (n + 1) x1 x2 x3 x4 x5 x6 = b (loop6 b n) x1 x2 x3 x4 x5 x6 := rfl
theorem nm1 : ¬ (0 : Int32) ≤ (-1 : Int32) := by decide
theorem read_loop {N : Nat} {H G : Nat → Nat} {kh st k0 kg e most lim : Nat} {T0 : Nat → Nat} {gn hsn : Int32} {gf hsf : Nat → Int32} (hN : 20000 < N) (hG : Rw 8000 kg gn gf G) (hH : Rw 8000 kh hsn hsf H) (he : e ≤ kg) (hm : most ≤ 8000) (hl : lim + st = kh + most) : ∀ (m fuel F i j v : Nat) (V : Nat → Nat) (bd bp tn : Int32) (tf : Nat → Int32), e - j ≤ m → m < fuel → m < F → i ≤ j → j ≤ e → v ≤ lim → To H kh st k0 T0 v V tn tf → ∃ at' bd' tn' tf', loop6 (b_BR_read_24 N (nI e) (nI e) (nI st) (nI most) gn gf hsn hsf) fuel (nI i) (nI j) bd bp tn tf = some (nI (rd G e lim F j v V).1, at', nI e, nI st, nI most, bd', nI (rd G e lim F j v V).2.1, tn', tf') ∧ To H kh st k0 T0 (rd G e lim F j v V).2.2.1 (rd G e lim F j v V).2.2.2 tn' tf' ∧ (rd G e lim F j v V).2.2.1 ≤ lim := by
  have hk := hG.2.1
  have hB : ∀ i, i < kg → G i < 256 := fun i hi => (hG.2.2.2 i hi).1
  intro m
  induction m with
  | zero =>
    intro fuel F i j v V bd bp tn tf h1 h2 h3 hij hje hv hT
    obtain ⟨fuel, rfl⟩ : ∃ z, fuel = z + 1 := ⟨fuel - 1, by omega⟩
    rw [rd_end (by omega), loop6_s, b_BR_read_24]
    have e158 : j_BR_read_158 (nI e) (nI j) (nI e) (nI st) (nI most) bd tn tf = some (1, nI j, nI e, nI st, nI most, bd, nI e, tn, tf) := by rw [j_BR_read_158, bd2_of (s_fault _ _)]
    by_cases c : e ≤ i
    · rw [if_pos (nI_le c (by omega)), e158]; exact ⟨_, _, _, _, rfl, hT, hv⟩
    · rw [if_neg (nI_ge (by omega) (by omega)), if_pos (nI_le (by omega) (by omega)), e158]; exact ⟨_, _, _, _, rfl, hT, hv⟩
  | succ m ih =>
    intro fuel F i j v V bd bp tn tf h1 h2 h3 hij hje hv hT
    by_cases c0 : e ≤ j
    · exact ih fuel F i j v V bd bp tn tf (by omega) (by omega) (by omega) hij hje hv hT
    obtain ⟨fuel, rfl⟩ : ∃ z, fuel = z + 1 := ⟨fuel - 1, by omega⟩
    obtain ⟨F, rfl⟩ : ∃ z, F = z + 1 := ⟨F - 1, by omega⟩
    have hbj := hB j (by omega)
    rw [loop6_s, b_BR_read_24, if_neg (nI_ge (by omega) (by omega)), if_neg (nI_ge (by omega) (by omega)), bd1_of (s_get hG (j := j) (by omega)), show nI (G j) >>> ((4 : Int32) &&& 31) = nI (G j / 16) from pk_shrN (by omega) _ 4 (by decide), show nI j + (1 : Int32) = nI (j + 1) from nI_1 j, rd, if_neg c0]
    have eg := s_grown hN hG (e := e) (h := G j / 16) (j := j + 1) he (by omega) (by omega)
    have f142 : ∀ (t : Int32) (a b c d f1 : Int32) (f2 : Nat → Int32) kh, ¬ t = 0 → j_BR_read_142 (nI i) t a (nI e) (nI st) (nI most) b c f1 f2 kh = some (t, a, nI e, nI st, nI most, b, c, f1, f2) := fun t a b c d f1 f2 kh ht => by rw [j_BR_read_142, if_neg ht]
    have f95 : ∀ (t a b c f1 : Int32) (f2 : Nat → Int32) kh, ¬ t = 0 → j_BR_read_95 N (nI i) (nI (G j)) t a (nI e) (nI st) (nI most) b c gn gf hsn hsf f1 f2 kh = some (t, a, nI e, nI st, nI most, b, c, f1, f2) := fun t a b c f1 f2 kh ht => by rw [j_BR_read_95, if_neg ht, j_BR_read_115, if_neg ht, f142 t a b c 0 f1 f2 kh ht]
    rcases hq : numN G e (G j / 16) (j + 1) with _ | ⟨n, j1⟩
    · rw [hq] at eg
      have el : f_BR_takeLiterals (-1) (nI e) (nI e) (nI most) bp gn gf tn tf = some (1, nI e, nI e, tn, tf) := by
        unfold f_BR_takeLiterals
        rw [j_BR_takeLiterals_0, if_neg nm1, bd2_of (s_fault _ _)]
      rw [bd2_of eg, bd5_of el, if_neg (by decide), f95 _ _ _ _ _ _ _ (by decide)]
      exact ⟨_, _, _, _, rfl, hT, hv⟩
    · rw [hq] at eg
      obtain ⟨q1, q2, q3⟩ := numN_ok hB he hk (by omega) (by omega) hq
      obtain ⟨tn1, tf1, hT1, el⟩ := s_takeLits (bp := bp) hT hG he (j := j1) (n := n) q2 q3 hm hl hv
      rw [bd2_of eg]
      simp only []
      by_cases c1 : min n (min (e - j1) (lim - v)) < n
      · rw [if_pos c1] at el
        rw [if_pos c1]
        by_cases c2 : e ≤ j1 + min n (min (e - j1) (lim - v))
        · rw [if_pos c2] at el
          rw [if_pos c2, bd5_of el, if_neg (by decide), f95 _ _ _ _ _ _ _ (by decide)]
          exact ⟨_, _, _, _, rfl, hT1, by show v + _ ≤ lim; omega⟩
        · rw [if_neg c2] at el
          rw [if_neg c2, bd5_of el, if_neg (by decide), f95 _ _ _ _ _ _ _ (by decide)]
          exact ⟨_, _, _, _, rfl, hT1, by show v + _ ≤ lim; omega⟩
      · rw [if_neg c1] at el
        have ek : min n (min (e - j1) (lim - v)) = n := by omega
        rw [ek] at hT1
        rw [if_neg c1, bd5_of el, if_pos rfl]
        by_cases c2 : e ≤ j1 + n
        · rw [if_neg (nI_nlt c2 (by omega)), if_pos c2]
          exact ⟨_, _, _, _, rfl, hT1, by show v + n ≤ lim; omega⟩
        · rw [if_pos (nI_lt (by omega) (by omega)), if_neg c2]
          have ed := s_takeDist (bd := bd) (bp := bp) hT1 hG hH he (j := j1 + n) (by omega)
          by_cases c3 : e < j1 + n + 2
          · rw [if_pos c3] at ed
            rw [if_pos c3, j_BR_read_95, if_pos rfl, bd4_of ed, j_BR_read_115, if_neg (by decide), f142 1 _ _ _ 0 _ _ _ (by decide)]
            exact ⟨_, _, _, _, rfl, hT1, by show v + n ≤ lim; omega⟩
          · rw [if_neg c3] at ed
            rw [if_neg c3]
            by_cases c4 : G (j1 + n) + 256 * G (j1 + n + 1) = 0 ∨ v + n < G (j1 + n) + 256 * G (j1 + n + 1)
            · rw [if_pos c4] at ed
              rw [if_pos c4, j_BR_read_95, if_pos rfl, bd4_of ed, j_BR_read_115, if_neg (by decide), f142 2 _ _ _ 0 _ _ _ (by decide)]
              exact ⟨_, _, _, _, rfl, hT1, by show v + n ≤ lim; omega⟩
            · rw [if_neg c4] at ed
              rw [if_neg c4, j_BR_read_95, if_pos rfl, bd4_of ed, j_BR_read_115, if_pos rfl, show nI (G j) &&& (15 : Int32) = nI (G j % 16) from pk_andN (by omega) 4 (by decide)]
              have eg2 := s_grown hN hG (e := e) (h := G j % 16) (j := j1 + n + 2) he (by omega) (by omega)
              rcases hq2 : numN G e (G j % 16) (j1 + n + 2) with _ | ⟨m2, j3⟩
              · rw [hq2] at eg2
                have ec : f_BR_takeCopy N (-1) (nI (j1 + n)) (nI e) (nI st) (nI most) (nI (G (j1 + n) + 256 * G (j1 + n + 1))) bp hsn hsf tn1 tf1 = some (1, nI e, tn1, tf1) := by
                  unfold f_BR_takeCopy
                  rw [j_BR_takeCopy_0, if_neg nm1, bd2_of (s_fault _ _)]
                rw [bd2_of eg2, bd4_of ec, f142 1 _ _ _ 0 _ _ _ (by decide)]
                exact ⟨_, _, _, _, rfl, hT1, by show v + n ≤ lim; omega⟩
              · rw [hq2] at eg2
                obtain ⟨r1, r2, r3⟩ := numN_ok hB he hk (by omega) (by omega) hq2
                obtain ⟨tn2, tf2, hT2, ec⟩ := s_takeCopy (e := e) (x2 := j1 + n) (bp := bp) hN hT1 hH hm hl (by omega) (d := G (j1 + n) + 256 * G (j1 + n + 1)) (by omega) (by omega) r3
                rw [bd2_of eg2]
                simp only []
                by_cases c5 : lim < v + n + (m2 + 4)
                · rw [if_pos c5] at ec hT2
                  obtain ⟨rfl, rfl⟩ := hT2
                  rw [if_pos c5, bd4_of ec, f142 3 _ _ _ 0 _ _ _ (by decide)]
                  exact ⟨_, _, _, _, rfl, hT1, by show v + n ≤ lim; omega⟩
                · rw [if_neg c5] at ec hT2
                  rw [if_neg c5, bd4_of ec, j_BR_read_142, if_pos rfl, nI_1]
                  exact ih fuel F (i + 1) j3 _ _ _ _ tn2 tf2 (by omega) (by omega) (by omega) (by omega) r2 (by omega) hT2
