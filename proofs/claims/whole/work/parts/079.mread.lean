/-! The model's reading of a block. -/
theorem adds_loop {kg : Nat} {wif : Nat → Int32} {G : Nat → Nat} (hG : ∀ j, j < kg → G j < 256 ∧ wif j = nI (G j)) {e : Nat} (he : e ≤ kg) (hk : kg ≤ 8000) : ∀ (m fuel t j : Nat), j + m = e → m + 1 < fuel → t + 255 * m < 3000000 → ∃ nu, loop3 (b_Mo_adds_17 (nI e) wif) fuel 1 (nI j) (nI t) = match addN G m t j with
    | none => some (0, nI e, nu)
    | some (n, k) => some (1, nI k, nI n) := by
  intro m
  induction m with
  | zero =>
    intro fuel t j hj hf ht
    obtain ⟨fuel, rfl⟩ : ∃ z, fuel = z + 1 := ⟨fuel - 1, by omega⟩
    refine ⟨nI t, ?_⟩
    rw [loop3_s, b_Mo_adds_17, if_neg (by decide), if_pos (by rw [show j = e from by omega]), addN_0, show j = e from by omega]
  | succ m ih =>
    intro fuel t j hj hf ht
    obtain ⟨fuel, rfl⟩ : ∃ z, fuel = z + 1 := ⟨fuel - 1, by omega⟩
    obtain ⟨a0, b0⟩ := hG j (by omega)
    rw [loop3_s, b_Mo_adds_17, if_neg (by decide), if_neg (show ¬ nI j = nI e from fun z => by have := (nI_eq (by omega) (by omega)).mp z; omega), as_of (vp_in_nI (by omega) (by decide)), as_of (vp_in_nI (by omega) (by decide)), nI_clamp (by omega), b0, addN_s, nI_add]
    by_cases c : G j = 255
    · rw [if_pos (show nI (G j) = 255 from by rw [c]; rfl), if_pos c, j_Mo_adds_69, c, show nI j + (1 : Int32) = nI (j + 1) from nI_1 j]
      exact ih fuel (t + 255) (j + 1) (by omega) (by omega) (by omega)
    · rw [if_neg (show ¬ nI (G j) = 255 from fun z => c ((nI_eq (b := 255) (by omega) (by decide)).mp z)), if_neg c, j_Mo_adds_69, show nI j + (1 : Int32) = nI (j + 1) from nI_1 j]
      obtain ⟨fuel, rfl⟩ : ∃ z, fuel = z + 1 := ⟨fuel - 1, by omega⟩
      exact ⟨0, by rw [loop3_s, b_Mo_adds_17, if_pos rfl]⟩
theorem m_adds {N kg : Nat} {wif : Nat → Int32} {G : Nat → Nat} (hN : 20000 < N) (hG : ∀ j, j < kg → G j < 256 ∧ wif j = nI (G j)) (hk : kg ≤ 8000) {e h j : Nat} (he : e ≤ kg) (hj : j ≤ e) (hh : h ≤ 15) : ∃ nu, f_Mo_adds N (nI h) (nI e) (nI j) wif = match numN G e h j with
    | none => some (0, nI e, nu)
    | some (n, k) => some (1, nI k, nI n) := by
  unfold f_Mo_adds numN
  rw [j_Mo_adds_0]
  by_cases c : h < 15
  · rw [if_neg (show ¬ nI h = 15 from fun z => by have := (nI_eq (b := 15) (by omega) (by decide)).mp z; omega), if_pos c, j_Mo_adds_16]
    obtain ⟨M, rfl⟩ : ∃ z, N = z + 1 := ⟨N - 1, by omega⟩
    exact ⟨0, by rw [loop3_s, b_Mo_adds_17, if_pos rfl]⟩
  · rw [if_pos (show nI h = 15 from by rw [show h = 15 from by omega]; rfl), if_neg c, j_Mo_adds_16]
    exact adds_loop hG he hk (e - j) N h j (by omega) (by omega) (by omega)
theorem mlit_loop {N kg : Nat} {wif : Nat → Int32} {G : Nat → Nat} (hG : ∀ j, j < kg → G j < 256 ∧ wif j = nI (G j)) (hk : kg ≤ 8000) {e room b0 lim : Nat} (he : e ≤ kg) (hlim : lim = b0 + room) (hl16 : lim ≤ 16000) {x5 wpl wnu : Int32} (kh11) : ∀ (t fuel r v j : Nat) (f : Nat → Int32) (V : Nat → Nat), t = min r (min (e - j) (lim - v)) → t < fuel → r ≤ 2100000 → j ≤ e → b0 ≤ v → v ≤ lim → Ma 16000 v f V → ∃ fuel' f', loop4 (b_Mo_readBlock_68 N (nI e) (nI room) (nI b0) x5 wpl wnu wif kh11) fuel (nI r) (nI v) (nI j) f = b_Mo_readBlock_68 N (nI e) (nI room) (nI b0) x5 wpl wnu wif kh11 (loop4 (b_Mo_readBlock_68 N (nI e) (nI room) (nI b0) x5 wpl wnu wif kh11) fuel') (nI (r - t)) (nI (v + t)) (nI (j + t)) f' ∧ Ma 16000 (v + t) f' (catB V v G j) := by
  intro t
  induction t with
  | zero =>
    intro fuel r v j f V ht hf hr hj hb hv h
    obtain ⟨fuel, rfl⟩ : ∃ z, fuel = z + 1 := ⟨fuel - 1, by omega⟩
    exact ⟨fuel, f, by rw [loop4_s]; rfl, h.1, h.2.1, fun i hi => by unfold catB; rw [if_pos (by omega)]; exact h.2.2 i (by omega)⟩
  | succ t ih =>
    intro fuel r v j f V ht hf hr hj hb hv h
    obtain ⟨fuel, rfl⟩ : ∃ z, fuel = z + 1 := ⟨fuel - 1, by omega⟩
    obtain ⟨a0, g0⟩ := hG j (by omega)
    have h' : Ma 16000 (v + 1) (upd f v (nI (G j))) (updB V v (G j)) := by
      refine ⟨by omega, by omega, fun i hi => ?_⟩
      unfold updB upd
      by_cases e1 : i = v
      · rw [if_pos e1, if_pos e1]; exact ⟨a0, rfl⟩
      · rw [if_neg e1, if_neg e1]; exact h.2.2 i (by omega)
    obtain ⟨fuel', f', e1, h1⟩ := ih fuel (r - 1) (v + 1) (j + 1) _ _ (by omega) (by omega) (by omega) (by omega) (by omega) (by omega) h'
    refine ⟨fuel', f', ?_, ?_⟩
    · rw [loop4_s, b_Mo_readBlock_68, if_neg (show ¬ nI r ≤ 0 from nI_nle (by omega) (by omega)), if_neg (show ¬ nI j = nI e from fun z => by have := (nI_eq (by omega) (by omega)).mp z; omega), pk_sub hb, if_neg (show ¬ nI (v - b0) = nI room from fun z => by have := (nI_eq (by omega) (by omega)).mp z; omega), as_of (vp_in_nI (by omega) (by decide)), as_of (vp_in_nI (by omega) (by decide)), nI_clamp (by omega), nI_clamp (by omega), g0, show nI r + (-1 : Int32) = nI (r - 1) from by rw [← Int32.sub_eq_add_neg]; exact pk_sub (by omega : 1 ≤ r), show nI v + (1 : Int32) = nI (v + 1) from nI_1 v, show nI j + (1 : Int32) = nI (j + 1) from nI_1 j, e1, show r - 1 - t = r - (t + 1) from by omega, show v + 1 + t = v + (t + 1) from by omega, show j + 1 + t = j + (t + 1) from by omega]
    · rw [show v + 1 + t = v + (t + 1) from by omega] at h1
      refine ⟨h1.1, h1.2.1, fun i hi => ?_⟩
      have := h1.2.2 i hi
      rw [show catB (updB V v (G j)) (v + 1) G (j + 1) i = catB V v G j i from by
        unfold catB updB
        by_cases x : i < v
        · rw [if_pos (by omega), if_neg (by omega), if_pos x]
        · by_cases y : i = v
          · subst y; rw [if_pos (by omega), if_pos rfl, if_neg (by omega)]; congr 1; omega
          · rw [if_neg (by omega), if_neg x]; congr 1; omega] at this
      exact this
theorem mcopy_loop {d v1 : Nat} {V : Nat → Nat} {wpl wat : Int32} {n : Nat} (kh11 : Int32 → Int32 → Int32 → Int32 → (Nat → Int32) → Option (Int32 × Int32 × Int32 × Int32 × Int32 × (Nat → Int32))) (hd1 : 1 ≤ d) (hd : d ≤ v1) (hV : ∀ i, v1 ≤ i → V i = V (i - d)) (hr : v1 + (n + 4) ≤ 16000) : ∀ (m fuel i : Nat) (f : Nat → Int32), i + m = n + 4 → m < fuel → Ma 16000 (v1 + i) f V → ∃ f', loop3 (b_Mo_readBlock_279 (nI d) wpl wat (nI n) kh11) fuel (nI i) (nI (v1 + i)) f = kh11 wpl (nI (v1 + (n + 4))) wat (nI n) f' ∧ Ma 16000 (v1 + (n + 4)) f' V := by
  intro m
  induction m with
  | zero =>
    intro fuel i f hi hf h
    obtain ⟨fuel, rfl⟩ : ∃ z, fuel = z + 1 := ⟨fuel - 1, by omega⟩
    rw [loop3_s, b_Mo_readBlock_279, show nI n + (4 : Int32) = nI (n + 4) from nI_add n 4, if_pos (nI_le (by omega) (by omega))]
    rw [show i = n + 4 from by omega] at h ⊢
    exact ⟨f, rfl, h⟩
  | succ m ih =>
    intro fuel i f hi hf h
    obtain ⟨fuel, rfl⟩ : ∃ z, fuel = z + 1 := ⟨fuel - 1, by omega⟩
    have hs := h.2.2 (v1 + i - d) (by omega)
    rw [← hV (v1 + i) (by omega)] at hs
    have h' : Ma 16000 (v1 + (i + 1)) (upd f (v1 + i) (nI (V (v1 + i)))) V := by
      refine ⟨by omega, by omega, fun k hk => ?_⟩
      unfold upd
      by_cases e1 : k = v1 + i
      · rw [if_pos e1, e1]; exact ⟨hs.1, rfl⟩
      · rw [if_neg e1]; exact h.2.2 k (by omega)
    rw [loop3_s, b_Mo_readBlock_279, show nI n + (4 : Int32) = nI (n + 4) from nI_add n 4, if_neg (nI_ge (by omega) (by omega)), pk_sub (by omega), as_of (vp_in_nI (by omega) (by decide)), as_of (vp_in_nI (by omega) (by decide)), nI_clamp (by omega), nI_clamp (by omega), hs.2, nI_1, show nI (v1 + i) + (1 : Int32) = nI (v1 + (i + 1)) from nI_1 _]
    exact ih fuel (i + 1) _ (by omega) (by omega) h'
theorem mread_loop {N kg : Nat} {wif : Nat → Int32} {G : Nat → Nat} (hN : 20000 < N) (hG : ∀ j, j < kg → G j < 256 ∧ wif j = nI (G j)) (hk : kg ≤ 8000) {e room b0 lim : Nat} (he : e ≤ kg) (hlim : lim = b0 + room) (hl16 : lim ≤ 16000) : ∀ (m fuel F j v : Nat) (V : Nat → Nat) (wpl wnu : Int32) (f : Nat → Int32), e - j ≤ m → m < fuel → m < F → j ≤ e → b0 ≤ v → v ≤ lim → Ma 16000 v f V → ∃ wat' wnu' f', loop5 (b_Mo_readBlock_11 N (nI e) (nI room) (nI b0) wif) fuel wpl (nI v) (nI j) wnu f = some (nI (rd G e lim F j v V).1, nI (rd G e lim F j v V).2.1, nI (rd G e lim F j v V).2.2.1, wat', wnu', f') ∧ Ma 16000 (rd G e lim F j v V).2.2.1 f' (rd G e lim F j v V).2.2.2 ∧ b0 ≤ (rd G e lim F j v V).2.2.1 ∧ (rd G e lim F j v V).2.2.1 ≤ lim := by
  have hB : ∀ i, i < kg → G i < 256 := fun i hi => (hG i hi).1
  intro m
  induction m with
  | zero =>
    intro fuel F j v V wpl wnu f h1 h2 h3 hje hb hv hM
    obtain ⟨fuel, rfl⟩ : ∃ z, fuel = z + 1 := ⟨fuel - 1, by omega⟩
    rw [rd_end (by omega), loop5_s, b_Mo_readBlock_11, if_pos (by rw [show j = e from by omega])]
    exact ⟨_, _, _, rfl, hM, hb, hv⟩
  | succ m ih =>
    intro fuel F j v V wpl wnu f h1 h2 h3 hje hb hv hM
    by_cases c0 : e ≤ j
    · exact ih fuel F j v V wpl wnu f (by omega) (by omega) (by omega) hje hb hv hM
    obtain ⟨fuel, rfl⟩ : ∃ z, fuel = z + 1 := ⟨fuel - 1, by omega⟩
    obtain ⟨F, rfl⟩ : ∃ z, F = z + 1 := ⟨F - 1, by omega⟩
    obtain ⟨bj, gj⟩ := hG j (by omega)
    rw [loop5_s, b_Mo_readBlock_11, if_neg (show ¬ nI j = nI e from fun z => by have := (nI_eq (by omega) (by omega)).mp z; omega), as_of (vp_in_nI (by omega) (by decide)), nI_clamp (by omega), gj, show nI (G j) / (16 : Int32) = nI (G j / 16) from pk_div (d := 16) (by omega) (by decide) (by decide), show nI j + (1 : Int32) = nI (j + 1) from nI_1 j, rd, if_neg c0]
    obtain ⟨nu, eg⟩ := m_adds (N := N) hN hG hk (e := e) (h := G j / 16) (j := j + 1) he (by omega) (by omega)
    rcases hq : numN G e (G j / 16) (j + 1) with _ | ⟨n, j1⟩
    · rw [hq] at eg
      rw [bd3_of eg, if_pos rfl]
      exact ⟨_, _, _, rfl, hM, hb, hv⟩
    · rw [hq] at eg
      obtain ⟨q1, q2, q3⟩ := numN_ok hB he hk (by omega) (by omega) hq
      rw [bd3_of eg, if_neg (by decide)]
      simp only []
      obtain ⟨fuel', f1, el, hM1⟩ := mlit_loop (N := N) hG hk he hlim hl16 (x5 := nI (G j)) (wpl := nI e) (wnu := nI n) (loop5 (b_Mo_readBlock_11 N (nI e) (nI room) (nI b0) wif) fuel) (min n (min (e - j1) (lim - v))) N n v j1 f V rfl (by omega) q3 q2 hb hv hM
      rw [el, b_Mo_readBlock_68]
      by_cases c1 : min n (min (e - j1) (lim - v)) < n
      · rw [if_neg (show ¬ nI (n - _) ≤ 0 from nI_nle (by omega) (by omega)), if_pos c1]
        by_cases c2 : e ≤ j1 + min n (min (e - j1) (lim - v))
        · rw [if_pos (show nI _ = nI e from by congr 1; omega), if_pos c2]
          exact ⟨_, _, _, rfl, hM1, by show b0 ≤ v + _; omega, by show v + _ ≤ lim; omega⟩
        · rw [if_neg (show ¬ nI _ = nI e from fun z => by have := (nI_eq (by omega) (by omega)).mp z; omega), if_neg c2, pk_sub (by omega), if_pos (show nI _ = nI room from by congr 1; omega)]
          exact ⟨_, _, _, rfl, hM1, by show b0 ≤ v + _; omega, by show v + _ ≤ lim; omega⟩
      · have ek : min n (min (e - j1) (lim - v)) = n := by omega
        rw [if_neg c1]
        rw [ek] at hM1 ⊢
        rw [Nat.sub_self, if_pos (show nI 0 ≤ 0 from by decide)]
        by_cases c2 : e ≤ j1 + n
        · rw [if_pos (show nI _ = nI e from by congr 1; omega), if_pos c2]
          exact ⟨_, _, _, rfl, hM1, by show b0 ≤ v + _; omega, by show v + n ≤ lim; omega⟩
        · rw [if_neg (show ¬ nI _ = nI e from fun z => by have := (nI_eq (by omega) (by omega)).mp z; omega), if_neg c2, show nI (j1 + n) + (2 : Int32) = nI (j1 + n + 2) from nI_add _ 2]
          by_cases c3 : e < j1 + n + 2
          · rw [if_neg (nI_ge c3 (by omega)), if_pos c3]
            exact ⟨_, _, _, rfl, hM1, by show b0 ≤ v + _; omega, by show v + n ≤ lim; omega⟩
          · obtain ⟨x0, y0⟩ := hG (j1 + n) (by omega)
            obtain ⟨x1, y1⟩ := hG (j1 + n + 1) (by omega)
            rw [if_pos (nI_le (by omega) (by omega)), if_neg c3, as_of (vp_in_nI (by omega) (by decide)), show nI (j1 + n) + (1 : Int32) = nI (j1 + n + 1) from nI_1 _, as_of (vp_in_nI (by omega) (by decide)), nI_clamp (by omega), nI_clamp (by omega), y0, y1, show (256 : Int32) * nI (G (j1 + n + 1)) = nI (256 * G (j1 + n + 1)) from pk_mul 256 _, nI_add]
            have hd : G (j1 + n) + 256 * G (j1 + n + 1) ≤ 65535 := by omega
            generalize G (j1 + n) + 256 * G (j1 + n + 1) = d at *
            by_cases z : d = 0
            · rw [if_pos (show nI d = 0 from by rw [z]; rfl), if_pos (Or.inl z), j_Mo_readBlock_227]
              exact ⟨_, _, _, rfl, hM1, by show b0 ≤ v + _; omega, by show v + n ≤ lim; omega⟩
            · rw [if_neg (show ¬ nI d = 0 from nI_ne0 (by omega) (by omega))]
              by_cases y : v + n < d
              · rw [if_neg (nI_ge y (by omega)), if_pos (Or.inr y), j_Mo_readBlock_227]
                exact ⟨_, _, _, rfl, hM1, by show b0 ≤ v + _; omega, by show v + n ≤ lim; omega⟩
              · rw [if_pos (nI_le (by omega) (by omega)), if_neg (by omega), show nI (G j) - nI (G j) / (16 : Int32) * (16 : Int32) = nI (G j % 16) from pk_rem (d := 16) (by omega) (by decide) (by decide)]
                obtain ⟨nu2, eg2⟩ := m_adds (N := N) hN hG hk (e := e) (h := G j % 16) (j := j1 + n + 2) he (by omega) (by omega)
                rcases hq2 : numN G e (G j % 16) (j1 + n + 2) with _ | ⟨m2, j3⟩
                · rw [hq2] at eg2
                  rw [bd3_of eg2, if_pos rfl]
                  exact ⟨_, _, _, rfl, hM1, by show b0 ≤ v + _; omega, by show v + n ≤ lim; omega⟩
                · rw [hq2] at eg2
                  obtain ⟨r1, r2, r3⟩ := numN_ok hB he hk (by omega) (by omega) hq2
                  rw [bd3_of eg2, if_neg (by decide), show nI m2 + (4 : Int32) = nI (m2 + 4) from nI_add m2 4, pk_sub (by omega), pk_sub (by omega)]
                  simp only []
                  by_cases c5 : lim < v + n + (m2 + 4)
                  · rw [if_neg (nI_ge (by omega) (by omega)), if_pos c5]
                    exact ⟨_, _, _, rfl, hM1, by show b0 ≤ v + _; omega, by show v + n ≤ lim; omega⟩
                  · rw [if_pos (nI_le (by omega) (by omega)), if_neg c5]
                    have hM2 : Ma 16000 (v + n + 0) f1 (perB (catB V v G j1) (v + n) d) := ⟨hM1.1, hM1.2.1, fun i hi => by unfold perB; rw [if_pos (show i < v + n from hi)]; exact hM1.2.2 i hi⟩
                    obtain ⟨f2, ec, hM3⟩ := mcopy_loop (wpl := nI e) (wat := nI j3) (n := m2) (loop5 (b_Mo_readBlock_11 N (nI e) (nI room) (nI b0) wif) fuel) (by omega) (by omega) (fun i hi => per_step (by omega) (by omega) hi) (by omega) (m2 + 4) N 0 f1 (by omega) (by omega) hM2
                    have ec : loop3 (b_Mo_readBlock_279 (nI d) (nI e) (nI j3) (nI m2) (loop5 (b_Mo_readBlock_11 N (nI e) (nI room) (nI b0) wif) fuel)) N 0 (nI (v + n)) f1 = _ := ec
                    rw [ec]
                    exact ih fuel F j3 _ _ _ _ f2 (by omega) (by omega) (by omega) r2 (by omega) (by omega) hM3
