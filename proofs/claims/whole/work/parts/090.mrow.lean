/-! A frame's row: the model's loop over its bytes. -/
theorem lits_push (D : Nat → Nat) {i b : Nat} (s : Sq) (h : i < b) : lits D (i + 1) b (push s (D i)) = lits D i b s := by
  unfold lits
  refine Prod.ext (by show s.1 + 1 + (b - (i + 1)) = s.1 + (b - i); omega) ?_
  funext j
  show catB (updB s.2 s.1 (D i)) (s.1 + 1) D (i + 1) j = catB s.2 s.1 D i j
  unfold catB updB
  by_cases x : j < s.1
  · rw [if_pos (by omega), if_neg (by omega), if_pos x]
  · by_cases y : j = s.1
    · subst y; rw [if_pos (by omega), if_pos rfl, if_neg (by omega)]; congr 1; omega
    · rw [if_neg (by omega), if_neg x]; congr 1; omega
theorem Mp.lits0 {D : Nat → Nat} {i : Nat} {s : Sq} {n : Int32} {f : Nat → Int32} (h : Mp s n f) : Mp (lits D i i s) n f := h.congr (by show s.1 = s.1 + (i - i); omega) (fun j hj => by show s.2 j = catB s.2 s.1 D i j; unfold catB; rw [if_pos hj])
/-- what comes behind the row's bytes -/
noncomputable def rowEnd (N fl m : Nat) (x4 x6 wdn wfo wpn : Int32) (wdf : Nat → Int32) (wlf : Nat → Int64) (kh : Int32 → Int32 → Int32 → Int32 → Int32 → (Nat → Int32) → (Nat → Int32) → (Nat → Int32) → (Nat → Int64) → Option (Int32 × Int32 × Int32 × Int32 × Int32 × Int32 × (Nat → Int32) × (Nat → Int32) × (Nat → Int32) × (Nat → Int32) × (Nat → Int64))) (n : Int32) (f pf : Nat → Int32) := if nI fl &&& (16 : Int32) = 0 then j_Mo_frame_342 x4 x6 wdn wfo n wpn wdf f pf wlf kh else bd2 (f_Mo_sumOf N 9000 0 (nI m) wlf pf) (fun r wl => bd2 (f_Mo_makeNumber N r 4 n f) (fun n' f' => j_Mo_frame_342 x4 x6 wdn wfo n' wpn wdf f' pf wl kh))
theorem fr_loop0 {N fl m : Nat} {x4 x6 wdn wfo wpn : Int32} {wif wdf : Nat → Int32} {wlf : Nat → Int64} (kh) {Q : Nat → Nat} {pf : Nat → Int32} (hm : m ≤ 8000) (hQ : ∀ j, j < m → Q j < 256 ∧ pf j = nI (Q j)) : ∀ (r fuel i : Nat) (s : Sq) (n : Int32) (f : Nat → Int32), i + r = m → r < fuel → s.1 + r < 900000 → Mp s n f → ∃ f', loop4 (b_Mo_frame_273 N (nI fl) x4 x6 0 (nI m) wdn wfo wpn wif wdf wlf kh) fuel (nI i) n f pf = rowEnd N fl m x4 x6 wdn wfo wpn wdf wlf kh (nI (lits Q i m s).1) f' pf ∧ Mp (lits Q i m s) (nI (lits Q i m s).1) f' := by
  intro r
  induction r with
  | zero =>
    intro fuel i s n f hi hf hs h
    obtain ⟨fuel, rfl⟩ : ∃ z, fuel = z + 1 := ⟨fuel - 1, by omega⟩
    rw [show i = m from by omega]
    have h' := h.lits0 (D := Q) (i := m)
    rw [loop4_s, b_Mo_frame_273, if_pos (nI_le (Nat.le_refl _) (by omega))]
    obtain ⟨e, -⟩ := id h'
    rw [e] at h' ⊢
    exact ⟨f, rfl, h'⟩
  | succ r ih =>
    intro fuel i s n f hi hf hs h
    obtain ⟨fuel, rfl⟩ : ∃ z, fuel = z + 1 := ⟨fuel - 1, by omega⟩
    obtain ⟨q1, q2⟩ := hQ i (by omega)
    obtain ⟨f1, e1, g1⟩ := m_make h (by omega) (v := Q i) q1
    rw [loop4_s, b_Mo_frame_273, if_neg (nI_ge (by omega) (by omega)), if_pos z00, j_Mo_frame_302, as_of (vp_in_nI (by omega) (by decide)), nI_clamp (by omega), q2, bd2_of e1, nI_1, ← lits_push Q s (by omega : i < m)]
    exact ih fuel (i + 1) _ _ f1 (by omega) (by omega) (by show s.1 + 1 + r < _; omega) g1
theorem fr_loop1 {N fl a b kg : Nat} {x4 wdn wfo wpn : Int32} {wif wdf : Nat → Int32} {wlf : Nat → Int64} (kh) {G : Nat → Nat} (hG : ∀ j, j < kg → G j < 256 ∧ wif j = nI (G j)) (hkg : kg ≤ 8000) (hab : a ≤ b) (hb : b ≤ kg) : ∀ (r fuel i : Nat) (s : Sq) (n : Int32) (f pf : Nat → Int32), i + r = b - a → r < fuel → s.1 + r < 900000 → Mp s n f → (∀ j, j < i → pf j = nI (G (a + j))) → ∃ f' pf', loop4 (b_Mo_frame_273 N (nI fl) x4 (nI a) 1 (nI (b - a)) wdn wfo wpn wif wdf wlf kh) fuel (nI i) n f pf = rowEnd N fl (b - a) x4 (nI a) wdn wfo wpn wdf wlf kh (nI (lits G (a + i) b s).1) f' pf' ∧ Mp (lits G (a + i) b s) (nI (lits G (a + i) b s).1) f' ∧ ∀ j, j < b - a → pf' j = nI (G (a + j)) := by
  intro r
  induction r with
  | zero =>
    intro fuel i s n f pf hi hf hs h hp
    obtain ⟨fuel, rfl⟩ : ∃ z, fuel = z + 1 := ⟨fuel - 1, by omega⟩
    rw [show a + i = b from by omega, show i = b - a from by omega]
    rw [show i = b - a from by omega] at hp
    have h' := h.lits0 (D := G) (i := b)
    rw [loop4_s, b_Mo_frame_273, if_pos (nI_le (Nat.le_refl _) (by omega))]
    obtain ⟨e, -⟩ := id h'
    rw [e] at h' ⊢
    exact ⟨f, pf, rfl, h', hp⟩
  | succ r ih =>
    intro fuel i s n f pf hi hf hs h hp
    obtain ⟨fuel, rfl⟩ : ∃ z, fuel = z + 1 := ⟨fuel - 1, by omega⟩
    obtain ⟨q1, q2⟩ := hG (a + i) (by omega)
    obtain ⟨f1, e1, g1⟩ := m_make h (by omega) (v := G (a + i)) q1
    rw [loop4_s, b_Mo_frame_273, if_neg (nI_ge (by omega) (by omega)), if_neg n10, nI_add, as_of (vp_in_nI (by omega) (by decide)), as_of (vp_in_nI (by omega) (by decide)), j_Mo_frame_302, as_of (vp_in_nI (by omega) (by decide)), nI_clamp (by omega), nI_clamp (by omega), q2, show upd pf i (nI (G (a + i))) i = nI (G (a + i)) from pk_us, bd2_of e1, nI_1, ← lits_push G s (by omega : a + i < b), show a + i + 1 = a + (i + 1) from by omega]
    refine ih fuel (i + 1) _ _ f1 _ (by omega) (by omega) (by show s.1 + 1 + r < _; omega) g1 (fun j hj => ?_)
    by_cases e : j = i
    · rw [e]; exact pk_us
    · rw [pk_un e]; exact hp j (by omega)
