/-! The model's block; begin, append, show; the class's startOver. -/
theorem grow_ct (v : Nat) (s : Sq) : (grow v s).1 ≤ s.1 + v / 255 + 1 := by
  unfold grow
  split
  · omega
  · show (rep 255 _ s).1 + 1 ≤ _
    rw [rep_1]; omega
theorem litS_ct (D : Nat → Nat) (a b v : Nat) (s : Sq) : (litS D a b v s).1 ≤ s.1 + (b - a) / 255 + 2 + (b - a) := by
  have := grow_ct (b - a) (push s (min (b - a) 15 * 16 + min v 15))
  have e : (push s (min (b - a) 15 * 16 + min v 15)).1 = s.1 + 1 := rfl
  show (grow _ _).1 + _ ≤ _
  omega
theorem cpyS_ct (d v : Nat) (s : Sq) : (cpyS d v s).1 ≤ s.1 + v / 255 + 3 := by
  have := grow_ct v (push (push s (d % 256)) (d / 256))
  have e : (push (push s (d % 256)) (d / 256)).1 = s.1 + 1 + 1 := rfl
  show (grow _ _).1 ≤ _
  omega
theorem wb_tail {N k way : Nat} (hN : 20000 < N) (hw : way ≤ 3) {wdf : Nat → Int32} {D : Nat → Nat} (hD : Ma 16000 k wdf D) {a : Nat} {s : Sq} {n : Int32} {f : Nat → Int32} (hs : s.1 < 600000) (h : Mp s n f) (ha : a ≤ k) (w : Int32) : ∀ (m fuel p : Nat), p + m = k → m < fuel → k < p + 12 → ∃ f', loop5 (b_Mo_writeBlock_10 N (nI way) (nI k) wdf) fuel (nI a) (nI p) w n f = some (w, nI (litS D a k 0 s).1, f') ∧ Mp (litS D a k 0 s) (nI (litS D a k 0 s).1) f' := by
  have hk := hD.1
  intro m
  induction m with
  | zero =>
    intro fuel p hp hf hl
    obtain ⟨fuel, rfl⟩ : ∃ z, fuel = z + 1 := ⟨fuel - 1, by omega⟩
    obtain ⟨f', e, g⟩ := m_seq hN hD (a := a) (b := k) (len := 0) (d := 0) ha (Nat.le_refl _) (Or.inl rfl) (by omega) (by omega) hs h
    have e : f_Mo_sequence N (nI a) (nI k) 0 0 n wdf f = some (nI (litS D a k 0 s).1, f') := e
    refine ⟨f', ?_, g⟩
    rw [loop5_s, b_Mo_writeBlock_10, if_pos (nI_le (by omega) (by omega)), bd2_of e]
  | succ m ih =>
    intro fuel p hp hf hl
    obtain ⟨fuel, rfl⟩ : ∃ z, fuel = z + 1 := ⟨fuel - 1, by omega⟩
    rw [loop5_s, b_Mo_writeBlock_10, if_neg (nI_ge (by omega) (by omega)), bd2_of (m_takenNo hw hl (by omega) (by omega) w), if_pos rfl, nI_1]
    exact ih fuel (p + 1) (by omega) (by omega) (by omega)
theorem wb_loop {N k way : Nat} (hN : 20000 < N) (hw : way ≤ 3) {wdf : Nat → Int32} {D : Nat → Nat} (hD : Ma 16000 k wdf D) : ∀ (m fuel F a p : Nat) (s : Sq) (n : Int32) (f : Nat → Int32) (w : Int32), k + 1 - p ≤ m → m < fuel → m < F → a ≤ p → p ≤ k → s.1 ≤ 3 * a → Mp s n f → ∃ w' f', loop5 (b_Mo_writeBlock_10 N (nI way) (nI k) wdf) fuel (nI a) (nI p) w n f = some (w', nI (blk D k way F a p s).1, f') ∧ Mp (blk D k way F a p s) (nI (blk D k way F a p s).1) f' := by
  have hk := hD.1
  intro m
  induction m with
  | zero => intro fuel F a p s n f w h1; omega
  | succ m ih =>
    intro fuel F a p s n f w h1 h2 h3 hap hpk hs h
    obtain ⟨F, rfl⟩ : ∃ z, F = z + 1 := ⟨F - 1, by omega⟩
    rw [blk_s]
    by_cases c0 : k < p + 12
    · rw [if_pos c0]
      obtain ⟨f', e, g⟩ := wb_tail hN hw hD (a := a) (by omega) h (by omega) w (k - p) fuel p (by omega) (by omega) c0
      exact ⟨w, f', e, g⟩
    · rw [if_neg c0]
      obtain ⟨fuel, rfl⟩ : ∃ z, fuel = z + 1 := ⟨fuel - 1, by omega⟩
      obtain ⟨w', e1, hw'⟩ := m_taken hN hD (p := p) hw (by omega) w
      obtain ⟨v1, v2, v3⟩ := lookN_inv D k p way
      rw [loop5_s, b_Mo_writeBlock_10, if_neg (nI_ge (by omega) (by omega)), bd2_of e1]
      by_cases l0 : lookN D k p way = 0
      · rw [if_pos l0, if_pos (show nI _ = 0 from by rw [l0]; rfl), nI_1]
        exact ih fuel F a (p + 1) s n f w' (by omega) (by omega) (by omega) (by omega) (by omega) hs h
      · rw [if_neg l0, if_neg (show ¬ nI _ = 0 from nI_ne0 (by omega) (by omega)), hw' l0]
        have hsrc : (rawN D k p way).2 < p := (raw_src D k p way).resolve_left (by rw [← v3 l0]; exact l0)
        obtain ⟨f', e, g⟩ := m_seq hN hD (a := a) (b := p) (len := lookN D k p way) (d := p - (rawN D k p way).2) hap (by omega) (Or.inr (by omega)) (by omega) (by omega) (by omega) h
        have tq : tailQ (lookN D k p way) (p - (rawN D k p way).2) (litS D a p (lookN D k p way - 4) s) = cpyS (p - (rawN D k p way).2) (lookN D k p way - 4) (litS D a p (lookN D k p way - 4) s) := by unfold tailQ; rw [if_neg l0]
        rw [tq] at e g
        rw [pk_sub (by omega), bd2_of e, nI_add]
        have c1 := cpyS_ct (p - (rawN D k p way).2) (lookN D k p way - 4) (litS D a p (lookN D k p way - 4) s)
        have c2 := litS_ct D a p (lookN D k p way - 4) s
        exact ih fuel F _ _ _ _ f' _ (by omega) (by omega) (by omega) (by omega) (by omega) (by omega) g
theorem m_writeBlock {N k h way : Nat} (hN : 20010 < N) (hw : way ≤ 3) {wdf : Nat → Int32} {D : Nat → Nat} (hD : Ma 16000 k wdf D) (hh : h ≤ k) (w : Int32) (wpf : Nat → Int32) : ∃ w' f', f_Mo_writeBlock N (nI h) (nI way) (nI k) w wdf wpf = some (w', nI (blockOf D h k way).1, f') ∧ Mp (blockOf D h k way) (nI (blockOf D h k way).1) f' := by
  have hk := hD.1
  exact wb_loop (by omega) hw hD (k + 1 - h) N 20001 h h (0, fun _ => 0) 0 wpf w (Nat.le_refl _) (by omega) (by omega) (Nat.le_refl _) hh (Nat.zero_le _) ⟨rfl, fun j hj => absurd hj (Nat.not_lt_zero j)⟩
theorem m_begin {N k : Nat} {whn : Int32} {whf : Nat → Int32} {B : Nat → Nat} (hN : 20000 < N) (h : Mw k whn whf B) (wdf : Nat → Int32) : ∃ f', f_Mo_begin N whn whf wdf = some (nI k, f') ∧ Ma 16000 k f' B := by
  obtain ⟨rfl, h1, h2⟩ := h
  refine ⟨fillF wdf 0 k whf, ?_, by omega, by omega, fun j hj => by rw [fillF_in (Nat.zero_le _) hj]; exact h2 j hj⟩
  exact cp_loop (b_Mo_begin_2 (nI k) whf) whf k (fun F => (nI k, F)) (fun kh F => by rw [b_Mo_begin_2, if_pos (nI_le (Nat.le_refl _) (by omega))]) (fun kh F i hi => by
    rw [b_Mo_begin_2, if_neg (nI_ge hi (by omega)), as_of (vp_in_nI (by omega) (by omega)), as_of (vp_in_nI (by omega) (by omega)), nI_clamp (by omega), nI_1]) N 0 wdf (Nat.zero_le _) (by omega)
theorem m_beginBack {N k : Nat} {whn : Int32} {whf : Nat → Int32} {B : Nat → Nat} (hN : 20000 < N) (h : Mw k whn whf B) (wdf : Nat → Int32) : ∃ f', f_Mo_beginBack N whn whf wdf = some (nI k, f') ∧ Ma 16000 k f' B := by
  obtain ⟨rfl, h1, h2⟩ := h
  refine ⟨fillF wdf 0 k whf, ?_, by omega, by omega, fun j hj => by rw [fillF_in (Nat.zero_le _) hj]; exact h2 j hj⟩
  exact cp_loop (b_Mo_beginBack_2 (nI k) whf) whf k (fun F => (nI k, F)) (fun kh F => by rw [b_Mo_beginBack_2, if_pos (nI_le (Nat.le_refl _) (by omega))]) (fun kh F i hi => by
    rw [b_Mo_beginBack_2, if_neg (nI_ge hi (by omega)), as_of (vp_in_nI (by omega) (by omega)), as_of (vp_in_nI (by omega) (by omega)), nI_clamp (by omega), nI_1]) N 0 wdf (Nat.zero_le _) (by omega)
theorem append_loop {kg : Nat} {wif : Nat → Int32} {G : Nat → Nat} (hG : ∀ j, j < kg → G j < 256 ∧ wif j = nI (G j)) {b : Nat} (hb : b ≤ kg) (hkg : kg ≤ 8000) : ∀ (m fuel a k : Nat) (f : Nat → Int32) (D : Nat → Nat), a + m = b → m < fuel → k + m ≤ 16000 → Ma 16000 k f D → ∃ f', loop3 (b_Mo_append_2 (nI b) wif) fuel (nI a) (nI k) f = some (nI (k + m), f') ∧ Ma 16000 (k + m) f' (catB D k G a) := by
  intro m
  induction m with
  | zero =>
    intro fuel a k f D ha hf hk h
    obtain ⟨fuel, rfl⟩ : ∃ z, fuel = z + 1 := ⟨fuel - 1, by omega⟩
    refine ⟨f, ?_, h.1, h.2.1, fun j hj => ?_⟩
    · rw [loop3_s, b_Mo_append_2, if_pos (nI_le (by omega) (by omega))]; rfl
    · unfold catB; rw [if_pos (by omega)]; exact h.2.2 j (by omega)
  | succ m ih =>
    intro fuel a k f D ha hf hk h
    obtain ⟨fuel, rfl⟩ : ∃ z, fuel = z + 1 := ⟨fuel - 1, by omega⟩
    obtain ⟨a0, b0⟩ := hG a (by omega)
    have h' : Ma 16000 (k + 1) (upd f k (nI (G a))) (updB D k (G a)) := by
      refine ⟨by omega, by omega, fun j hj => ?_⟩
      unfold updB upd
      by_cases e : j = k
      · rw [if_pos e, if_pos e]; exact ⟨a0, rfl⟩
      · rw [if_neg e, if_neg e]; exact h.2.2 j (by omega)
    obtain ⟨f', e, g⟩ := ih fuel (a + 1) (k + 1) _ _ (by omega) (by omega) (by omega) h'
    refine ⟨f', ?_, ?_⟩
    · rw [loop3_s, b_Mo_append_2, if_neg (nI_ge (by omega) (by omega)), as_of (vp_in_nI (by omega) (by omega)), as_of (vp_in_nI (by omega) (by omega)), nI_clamp (by omega), nI_clamp (by omega), b0, nI_1, show nI k + (1 : Int32) = nI (k + 1) from nI_1 k, e, show k + 1 + m = k + (m + 1) from by omega]
    · rw [show k + 1 + m = k + (m + 1) from by omega] at g
      refine ⟨g.1, g.2.1, fun j hj => ?_⟩
      have := g.2.2 j hj
      rw [show catB (updB D k (G a)) (k + 1) G (a + 1) j = catB D k G a j from by
        unfold catB updB
        by_cases x : j < k
        · rw [if_pos (by omega), if_neg (by omega), if_pos x]
        · by_cases y : j = k
          · subst y; rw [if_pos (by omega), if_pos rfl, if_neg (by omega)]; congr 1; omega
          · rw [if_neg (by omega), if_neg x]; congr 1; omega] at this
      exact this
theorem m_append {N kg k a b : Nat} {win : Int32} {wif : Nat → Int32} {G : Nat → Nat} (hN : 20000 < N) (hG : Mw kg win wif G) (hab : a ≤ b) (hb : b ≤ kg) {wdf : Nat → Int32} {D : Nat → Nat} (h : Ma 16000 k wdf D) (hk : k + (b - a) ≤ 16000) : ∃ f', f_Mo_append N (nI a) (nI b) (nI k) wif wdf = some (nI (k + (b - a)), f') ∧ Ma 16000 (k + (b - a)) f' (catB D k G a) := append_loop hG.2.2 hb hG.2.1 (b - a) N a k wdf D (by omega) (by have := hG.2.1; omega) hk h
theorem m_show {N aL k : Nat} {af wof : Nat → Int32} {won : Int32} {B : Nat → Nat} (hN : 20000 < N) (hk : k ≤ 8000) (haL : k ≤ aL) (haL2 : aL ≤ 16000) (h : ∀ j, j < k → B j < 256 ∧ af j = nI (B j)) : ∃ f', f_Mo_show N aL (nI k) won wof af = some (nI k, nI k, f') ∧ Mw k (nI k) f' B := by
  refine ⟨fillF wof 0 k af, ?_, rfl, hk, fun j hj => by rw [fillF_in (Nat.zero_le _) hj]; exact h j hj⟩
  unfold f_Mo_show
  rw [j_Mo_show_0, if_pos (show nI k ≤ 8000 from nI_le (b := 8000) hk (by decide))]
  exact cp_loop (b_Mo_show_11 aL (nI k) af) af k (fun F => (nI k, nI k, F)) (fun kh F => by rw [b_Mo_show_11, if_pos (nI_le (Nat.le_refl _) (by omega))]) (fun kh F i hi => by
    rw [b_Mo_show_11, if_neg (nI_ge hi (by omega)), as_of (vp_in_nI (by omega) (by omega)), as_of (vp_in_nI (by omega) (by omega)), nI_clamp (by omega), nI_1]) N 0 wof (Nat.zero_le _) (by omega)
theorem m_showNo {N aL k : Nat} {af wof : Nat → Int32} {won : Int32} (hk : 8000 < k) (hk2 : k < 2 ^ 31) : f_Mo_show N aL (nI k) won wof af = some (-1, won, wof) := by
  unfold f_Mo_show
  rw [j_Mo_show_0, if_neg (show ¬ nI k ≤ 8000 from nI_ge (a := 8000) hk hk2)]
