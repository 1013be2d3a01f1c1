/-! The model's search. -/
theorem alike_loop {k : Nat} {f : Nat → Int32} {D : Nat → Nat} (h : Ma 16000 k f D) {q p m : Nat} (hq : q ≤ p) (hm : p + m ≤ k) : ∀ (r fuel i : Nat), i + r = m → r < fuel → loop1 (b_Mo_alike_3 (nI q) (nI p) (nI m) f) fuel (nI i) = some (nI (al D q p r i)) := by
  obtain ⟨h1, h2, h3⟩ := h
  intro r
  induction r with
  | zero =>
    intro fuel i hi hf
    obtain ⟨fuel, rfl⟩ : ∃ z, fuel = z + 1 := ⟨fuel - 1, by omega⟩
    rw [loop1_s, b_Mo_alike_3, if_pos (nI_le (by omega) (by omega)), al_0]
  | succ r ih =>
    intro fuel i hi hf
    obtain ⟨fuel, rfl⟩ : ∃ z, fuel = z + 1 := ⟨fuel - 1, by omega⟩
    obtain ⟨a1, b1⟩ := h3 (q + i) (by omega)
    obtain ⟨a2, b2⟩ := h3 (p + i) (by omega)
    rw [loop1_s, b_Mo_alike_3, if_neg (nI_ge (by omega) (by omega)), nI_add, nI_add, as_of (vp_in_nI (by omega) (by omega)), as_of (vp_in_nI (by omega) (by omega)), nI_clamp (by omega), nI_clamp (by omega), b1, b2, al_s]
    by_cases e : D (q + i) = D (p + i)
    · rw [if_pos (by rw [e]), if_pos e, nI_1]
      exact ih fuel (i + 1) (by omega) (by omega)
    · rw [if_neg (fun z => e ((nI_eq (by omega) (by omega)).mp z)), if_neg e]
def foundQ (w : Int32) (s : Nat × Nat) : Int32 := if s.1 = 0 then w else nI s.2
theorem match_loop {N k : Nat} {f : Nat → Int32} {D : Nat → Nat} (hN : 20000 < N) (h : Ma 16000 k f D) {p m way : Nat} (hw : way ≤ 3) (hm : p + m ≤ k) (w : Int32) : ∀ (r fuel : Nat) (s : Nat × Nat), r < fuel → r ≤ p → (s.1 = 0 ∨ 4 ≤ s.1) → s.1 ≤ m → loop3 (b_Mo_match_39 N (nI p) (nI way) (nI m) f) fuel (nI s.1) (nI r - 1) (foundQ w s) = some (nI (mfind D p m way r s).1, foundQ w (mfind D p m way r s)) := by
  obtain ⟨h1, h2, h3⟩ := id h
  intro r
  induction r with
  | zero =>
    intro fuel s hf _ _ _
    obtain ⟨fuel, rfl⟩ : ∃ z, fuel = z + 1 := ⟨fuel - 1, by omega⟩
    rw [loop3_s, b_Mo_match_39, if_pos (by decide), mfind_0]
  | succ r ih =>
    intro fuel s hf hr hs0 hsm
    obtain ⟨fuel, rfl⟩ : ∃ z, fuel = z + 1 := ⟨fuel - 1, by omega⟩
    have hl := al_le D r p m 0
    obtain ⟨i1, i2⟩ := mstep_inv (D := D) (p := p) (way := way) (q := r) hs0 hsm
    have alk : f_Mo_alike N (nI r) (nI p) (nI m) f = some (nI (al D r p m 0)) := alike_loop h (by omega) hm m N 0 (by omega) (by omega)
    rw [loop3_s, b_Mo_match_39, nI_pred, if_neg (nI_pos (by omega)), pk_sub (by omega), if_neg (show ¬ 65535 < nI (p - r) from nI_nlt (a := 65535) (by omega) (by decide)), bd1_of alk, mfind_s]
    have fin := ih fuel (mstep D p m way s r) (by omega) (by omega) i1 i2
    generalize hal : al D r p m 0 = l at hl ⊢
    have c0 : (nI s.1 = 0) ↔ s.1 = 0 := nI_eq (b := 0) (by omega) (by decide)
    have c4 : (nI l < 4) ↔ l < 4 := nI_ltI (b := 4) (by omega) (by decide)
    have c4' : ((4 : Int32) ≤ nI l) ↔ 4 ≤ l := nI_leI (a := 4) (by decide) (by omega)
    have cb : (nI l ≤ nI s.1) ↔ l ≤ s.1 := nI_leI (by omega) (by omega)
    have c8 : (nI l < 8) ↔ l < 8 := nI_ltI (b := 8) (by omega) (by decide)
    have d8 : ((8 : Int32) ≤ nI s.1) ↔ 8 ≤ s.1 := nI_leI (a := 8) (by decide) (by omega)
    have d0 : (nI s.1 ≤ 0) ↔ s.1 ≤ 0 := nI_leI (b := 0) (by omega) (by decide)
    have em : nI r + (-1 : Int32) = nI r - 1 := (Int32.sub_eq_add_neg _ _).symm
    have eT : better way s.1 l = true → ∀ kh, j_Mo_match_147 (nI s.1) (nI r) (nI l) 1 (foundQ w s) kh = kh (nI (mstep D p m way s r).1) (nI r - 1) (foundQ w (mstep D p m way s r)) := by
      intro g kh
      have g4 : ¬ l = 0 := by
        intro z
        rw [nb_lt4 (by omega)] at g
        cases g
      unfold mstep
      rw [hal, if_pos g, j_Mo_match_147, if_neg (by decide), j_Mo_match_167, em]
      unfold foundQ
      rw [if_neg (by show ¬ l = 0; exact g4)]
    have eF : better way s.1 l = false → ∀ kh, j_Mo_match_147 (nI s.1) (nI r) (nI l) 0 (foundQ w s) kh = kh (nI (mstep D p m way s r).1) (nI r - 1) (foundQ w (mstep D p m way s r)) := by
      intro g kh
      unfold mstep
      rw [hal, g, if_neg (by decide), j_Mo_match_147, if_pos rfl, j_Mo_match_167, em]
    by_cases a : way = 0
    · have bt : better way s.1 l = decide (s.1 = 0 ∧ 4 ≤ l) := by unfold better; rw [if_pos a]
      rw [if_pos (show nI way = 0 from by rw [a]; rfl)]
      by_cases b : s.1 = 0
      · rw [if_pos (c0.mpr b)]
        by_cases c : l < 4
        · rw [if_pos (c4.mpr c), j_Mo_match_82, eF (by rw [bt]; exact decide_eq_false (by omega))]; exact fin
        · rw [if_neg (fun z => c (c4.mp z)), eT (by rw [bt]; exact decide_eq_true (by omega))]; exact fin
      · rw [if_neg (fun z => b (c0.mp z)), j_Mo_match_82, eF (by rw [bt]; exact decide_eq_false (by omega))]; exact fin
    · rw [if_neg (show ¬ nI way = 0 from fun z => a ((nI_eq (b := 0) (by omega) (by decide)).mp z))]
      by_cases a1 : way = 1
      · have bt : better way s.1 l = decide ((s.1 = 0 ∧ 4 ≤ l) ∨ (0 < s.1 ∧ s.1 < 8 ∧ 8 ≤ l)) := by unfold better; rw [if_neg a, if_pos a1]
        have e102 : ¬ (s.1 = 0 ∧ 4 ≤ l) → ∀ kh, j_Mo_match_102 (nI s.1) (nI r) (nI l) (foundQ w s) kh = kh (nI (mstep D p m way s r).1) (nI r - 1) (foundQ w (mstep D p m way s r)) := by
          intro g kh
          rw [j_Mo_match_102]
          by_cases x : s.1 ≤ 0
          · rw [if_pos (d0.mpr x), j_Mo_match_125, eF (by rw [bt]; exact decide_eq_false (by omega))]
          · rw [if_neg (fun z => x (d0.mp z))]
            by_cases y : 8 ≤ s.1
            · rw [if_pos (d8.mpr y), j_Mo_match_125, eF (by rw [bt]; exact decide_eq_false (by omega))]
            · rw [if_neg (fun z => y (d8.mp z))]
              by_cases v : l < 8
              · rw [if_pos (c8.mpr v), j_Mo_match_125, eF (by rw [bt]; exact decide_eq_false (by omega))]
              · rw [if_neg (fun z => v (c8.mp z)), j_Mo_match_121, eT (by rw [bt]; exact decide_eq_true (by omega))]
        rw [if_pos (show nI way = 1 from by rw [a1]; rfl)]
        by_cases b : s.1 = 0
        · rw [if_pos (c0.mpr b)]
          by_cases c : 4 ≤ l
          · rw [if_pos (c4'.mpr c), j_Mo_match_121, eT (by rw [bt]; exact decide_eq_true (by omega))]; exact fin
          · rw [if_neg (fun z => c (c4'.mp z)), e102 (by omega)]; exact fin
        · rw [if_neg (fun z => b (c0.mp z)), e102 (by omega)]; exact fin
      · have bt : better way s.1 l = decide (4 ≤ l ∧ s.1 < l) := by unfold better; rw [if_neg a, if_neg a1]
        rw [if_neg (show ¬ nI way = 1 from fun z => a1 ((nI_eq (b := 1) (by omega) (by decide)).mp z))]
        by_cases c : l < 4
        · rw [if_pos (c4.mpr c), j_Mo_match_146, eF (by rw [bt]; exact decide_eq_false (by omega))]; exact fin
        · rw [if_neg (fun z => c (c4.mp z))]
          by_cases d : l ≤ s.1
          · rw [if_pos (cb.mpr d), j_Mo_match_146, eF (by rw [bt]; exact decide_eq_false (by omega))]; exact fin
          · rw [if_neg (fun z => d (cb.mp z)), eT (by rw [bt]; exact decide_eq_true (by omega))]; exact fin
theorem m_match {N k : Nat} {f : Nat → Int32} {D : Nat → Nat} (hN : 20000 < N) (h : Ma 16000 k f D) {p way : Nat} (hw : way ≤ 3) (hp : p + 12 ≤ k) (w : Int32) : f_Mo_match N (nI p) (nI way) (nI k) w f = some (nI (rawN D k p way).1, foundQ w (rawN D k p way)) := by
  obtain ⟨h1, h2, h3⟩ := id h
  unfold f_Mo_match
  rw [j_Mo_match_0, if_neg (nI_pos (by omega)), show nI k - (12 : Int32) = nI (k - 12) from pk_sub (by omega : 12 ≤ k), if_neg (nI_nlt (by omega) (by omega)), show nI k - (5 : Int32) = nI (k - 5) from pk_sub (by omega : 5 ≤ k), pk_sub (by omega), if_pos (show (4 : Int32) ≤ nI (k - 5 - p) from nI_le (a := 4) (by omega) (by omega))]
  exact match_loop hN h hw (m := k - 5 - p) (by omega) w p N (0, 0) (by omega) (Nat.le_refl _) (Or.inl rfl) (Nat.zero_le _)
theorem m_matchNo {N k : Nat} {p way : Nat} {f : Nat → Int32} (hp : k < p + 12) (hk : k ≤ 16000) (hpk : p ≤ 16000) (w : Int32) : f_Mo_match N (nI p) (nI way) (nI k) w f = some (0, w) := by
  unfold f_Mo_match
  rw [j_Mo_match_0, if_neg (nI_pos (by omega))]
  by_cases c : 12 ≤ k
  · rw [show nI k - (12 : Int32) = nI (k - 12) from pk_sub c, if_pos (nI_lt (by omega) (by omega))]
  · rw [if_pos]
    have a : nI k - (12 : Int32) < 0 := pk_sneg (b := 12) (by decide) (by omega)
    have b : (0 : Int32) ≤ nI p := nI_pos' (by omega)
    exact Int32.lt_of_lt_of_le a b
theorem better32 (b l : Nat) : better 3 b l = better 2 b l := rfl
theorem mfind32 (D : Nat → Nat) (p most : Nat) : ∀ (q : Nat) (s : Nat × Nat), mfind D p most 3 q s = mfind D p most 2 q s := by
  intro q
  induction q with
  | zero => intro s; rfl
  | succ q ih => intro s; rw [mfind_s, mfind_s, ih]; rfl
theorem raw32 (D : Nat → Nat) (n p : Nat) : rawN D n p 3 = rawN D n p 2 := mfind32 D p _ p (0, 0)
/-- taken: the length, and where it comes from -/
theorem m_taken {N k : Nat} {f : Nat → Int32} {D : Nat → Nat} (hN : 20000 < N) (h : Ma 16000 k f D) {p way : Nat} (hw : way ≤ 3) (hp : p + 12 ≤ k) (w : Int32) : ∃ w', f_Mo_taken N (nI p) (nI way) (nI k) w f = some (nI (lookN D k p way), w') ∧ (lookN D k p way ≠ 0 → w' = nI (rawN D k p way).2) := by
  obtain ⟨h1, h2, h3⟩ := id h
  obtain ⟨v1, v2⟩ := rawN_inv D k p way
  have held : ∀ z, (rawN D k p way).1 ≠ 0 → foundQ z (rawN D k p way) = nI (rawN D k p way).2 := fun z hz => by unfold foundQ; rw [if_neg hz]
  unfold f_Mo_taken
  rw [j_Mo_taken_0]
  by_cases a : way = 3
  · subst a
    rw [if_pos (show (3 : Int32) ≤ nI 3 from nI_le (a := 3) (by decide) (by decide)), show nI p + (1 : Int32) = nI (p + 1) from nI_1 p, show nI k - (12 : Int32) = nI (k - 12) from pk_sub (by omega : 12 ≤ k)]
    by_cases c : p + 12 < k
    · obtain ⟨u1, u2⟩ := rawN_inv D k (p + 1) 3
      have e1 := m_match hN h (p := p + 1) (way := 2) (by decide) (by omega) w
      have e1 : f_Mo_match N (nI (p + 1)) 2 (nI k) w f = some (nI (rawN D k (p + 1) 2).1, foundQ w (rawN D k (p + 1) 2)) := e1
      have e2 := m_match hN h (p := p) (way := 2) (by decide) hp (foundQ w (rawN D k (p + 1) 2))
      have e2 : f_Mo_match N (nI p) 2 (nI k) (foundQ w (rawN D k (p + 1) 2)) f = some (nI (rawN D k p 2).1, foundQ (foundQ w (rawN D k (p + 1) 2)) (rawN D k p 2)) := e2
      rw [if_neg (nI_nlt (by omega) (by omega)), bd2_of e1, j_Mo_taken_37, bd2_of e2, ← raw32, ← raw32]
      unfold lookN
      by_cases g : (rawN D k (p + 1) 3).1 ≤ (rawN D k p 3).1
      · rw [if_pos (nI_le g (by omega)), if_neg (fun z => by omega)]
        exact ⟨_, rfl, fun z => held _ z⟩
      · rw [if_neg (nI_ge (by omega) (by omega))]
        by_cases y : (rawN D k p 3).1 = 0
        · rw [if_neg (fun z => z.2.1 y)]
          exact ⟨_, by rw [y]; rfl, fun z => absurd y z⟩
        · rw [if_pos ⟨rfl, y, c, by omega⟩]
          exact ⟨_, rfl, fun z => absurd rfl z⟩
    · have e2 := m_match hN h (p := p) (way := 2) (by decide) hp w
      have e2 : f_Mo_match N (nI p) 2 (nI k) w f = some (nI (rawN D k p 2).1, foundQ w (rawN D k p 2)) := e2
      rw [if_pos (nI_lt (by omega) (by omega)), j_Mo_taken_37, bd2_of e2, ← raw32, if_pos (show (0 : Int32) ≤ nI _ from nI_pos' (by omega))]
      unfold lookN
      rw [if_neg (fun z => c z.2.2.1)]
      exact ⟨_, rfl, fun z => held _ z⟩
  · rw [if_neg (show ¬ (3 : Int32) ≤ nI way from nI_ge (b := 3) (by omega) (by decide)), bd2_of (m_match hN h hw hp w)]
    unfold lookN
    rw [if_neg (fun z => a z.1)]
    exact ⟨_, rfl, fun z => held _ z⟩
theorem m_takenNo {N k : Nat} {p way : Nat} {f : Nat → Int32} (hw : way ≤ 3) (hp : k < p + 12) (hk : k ≤ 16000) (hpk : p ≤ 16000) (w : Int32) : f_Mo_taken N (nI p) (nI way) (nI k) w f = some (0, w) := by
  unfold f_Mo_taken
  rw [j_Mo_taken_0]
  by_cases a : way = 3
  · subst a
    have e2 : f_Mo_match N (nI p) 2 (nI k) w f = some (0, w) := m_matchNo (way := 2) hp (by omega) (by omega) w
    rw [if_pos (show (3 : Int32) ≤ nI 3 from nI_le (a := 3) (by decide) (by decide)), show nI p + (1 : Int32) = nI (p + 1) from nI_1 p]
    have lt : nI k - (12 : Int32) < nI (p + 1) := by
      by_cases c : 12 ≤ k
      · rw [show nI k - (12 : Int32) = nI (k - 12) from pk_sub c]; exact nI_lt (by omega) (by omega)
      · have a : nI k - (12 : Int32) < 0 := pk_sneg (b := 12) (by decide) (by omega)
        exact Int32.lt_of_lt_of_le a (nI_pos' (by omega))
    rw [if_pos lt, j_Mo_taken_37, bd2_of e2, if_pos (by decide)]
  · rw [if_neg (show ¬ (3 : Int32) ≤ nI way from nI_ge (b := 3) (by omega) (by decide)), bd2_of (m_matchNo hp (by omega) (by omega) w)]
