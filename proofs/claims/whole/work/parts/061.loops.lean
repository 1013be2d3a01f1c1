/-! Loops that copy, and the model's rows. -/
theorem loop2_s {α β ρ : Type} (b : (α → β → Option ρ) → α → β → Option ρ) (n : Nat) (x : α) (y : β) : loop2 b (n + 1) x y = b (loop2 b n) x y := rfl
theorem loop3_s {α β γ ρ : Type} (b : (α → β → γ → Option ρ) → α → β → γ → Option ρ) (n : Nat) (x : α) (y : β) (z : γ) : loop3 b (n + 1) x y z = b (loop3 b n) x y z := rfl
theorem loop1_s {α ρ : Type} (b : (α → Option ρ) → α → Option ρ) (n : Nat) (x : α) : loop1 b (n + 1) x = b (loop1 b n) x := rfl
def fillF (F : Nat → Int32) (i k : Nat) (g : Nat → Int32) : Nat → Int32 := fun j => if i ≤ j ∧ j < k then g j else F j
theorem fillF_in {F : Nat → Int32} {i k : Nat} {g : Nat → Int32} {j : Nat} (h : i ≤ j) (h2 : j < k) : fillF F i k g j = g j := if_pos ⟨h, h2⟩
theorem fillF_out {F : Nat → Int32} {i k : Nat} {g : Nat → Int32} {j : Nat} (h : j < i ∨ k ≤ j) : fillF F i k g j = F j := if_neg (fun q => by omega)
theorem fillF_step (F : Nat → Int32) {i k : Nat} (g : Nat → Int32) (h : i < k) : fillF (upd F i (g i)) (i + 1) k g = fillF F i k g := by
  funext j
  unfold fillF upd
  by_cases e : j = i
  · subst e
    rw [if_neg (by omega), if_pos rfl, if_pos (by omega)]
  · by_cases e2 : i ≤ j ∧ j < k
    · rw [if_pos (by omega), if_pos e2]
    · rw [if_neg (by omega), if_neg e2, if_neg e]
theorem fillF_end (F : Nat → Int32) (k : Nat) (g : Nat → Int32) : fillF F k k g = F := by
  funext j
  exact fillF_out (by omega)
/-- a loop that sets place i to g i, up to k -/
theorem cp_loop {ρ : Type} (b : (Int32 → (Nat → Int32) → Option ρ) → Int32 → (Nat → Int32) → Option ρ) (g : Nat → Int32) (k : Nat) (fin : (Nat → Int32) → ρ) (hend : ∀ kh F, b kh (nI k) F = some (fin F)) (hstep : ∀ kh F i, i < k → b kh (nI i) F = kh (nI (i + 1)) (upd F i (g i))) : ∀ (n i : Nat) (F : Nat → Int32), i ≤ k → k - i < n → loop2 b n (nI i) F = some (fin (fillF F i k g)) := by
  intro n
  induction n with
  | zero => intro i F h1 h2; omega
  | succ n ih =>
    intro i F h1 h2
    rw [loop2_s]
    by_cases e : i = k
    · subst e
      rw [hend, fillF_end]
    · rw [hstep _ _ _ (by omega), ih (i + 1) _ (by omega) (by omega), fillF_step F g (by omega)]
/-- the model's row: ints 0 .. 255 -/
def Mw (k : Nat) (n : Int32) (f : Nat → Int32) (B : Nat → Nat) : Prop := n = nI k ∧ k ≤ 8000 ∧ ∀ j, j < k → B j < 256 ∧ f j = nI (B j)
theorem Mw.congr {k : Nat} {n : Int32} {f : Nat → Int32} {B C : Nat → Nat} (h : Mw k n f B) (e : ∀ j, j < k → B j = C j) : Mw k n f C := ⟨h.1, h.2.1, fun j hj => by rw [← e j hj]; exact h.2.2 j hj⟩
theorem m_turn {N k : Nat} {won : Int32} {wof : Nat → Int32} {B : Nat → Nat} (hN : 16000 < N) (wif : Nat → Int32) (h : Mw k won wof B) : ∃ f', f_Mo_turn N won wif wof = some (nI k, f') ∧ Mw k (nI k) f' B := by
  obtain ⟨rfl, h1, h2⟩ := h
  refine ⟨fillF wif 0 k wof, ?_, rfl, h1, fun j hj => by rw [fillF_in (Nat.zero_le _) hj]; exact h2 j hj⟩
  exact cp_loop (b_Mo_turn_2 (nI k) wof) wof k (fun F => (nI k, F)) (fun kh F => by unfold b_Mo_turn_2; rw [if_pos (nI_le (Nat.le_refl _) (by omega))]) (fun kh F i hi => by
    unfold b_Mo_turn_2
    rw [if_neg (nI_ge hi (by omega)), as_of (vp_in_nI (by omega) (by omega)), as_of (vp_in_nI (by omega) (by omega)), nI_clamp (by omega), nI_1]) N 0 wif (Nat.zero_le _) (by omega)
theorem m_remember {N k : Nat} {win : Int32} {wif : Nat → Int32} {B : Nat → Nat} (hN : 16000 < N) (whf : Nat → Int32) (h : Mw k win wif B) : ∃ f', f_Mo_remember N win wif whf = some (0, nI k, f') ∧ Mw k (nI k) f' B := by
  obtain ⟨rfl, h1, h2⟩ := h
  refine ⟨fillF whf 0 k wif, ?_, rfl, h1, fun j hj => by rw [fillF_in (Nat.zero_le _) hj]; exact h2 j hj⟩
  exact cp_loop (b_Mo_remember_2 (nI k) wif) wif k (fun F => (0, nI k, F)) (fun kh F => by unfold b_Mo_remember_2; rw [if_pos (nI_le (Nat.le_refl _) (by omega))]) (fun kh F i hi => by
    unfold b_Mo_remember_2
    rw [if_neg (nI_ge hi (by omega)), as_of (vp_in_nI (by omega) (by omega)), as_of (vp_in_nI (by omega) (by omega)), nI_clamp (by omega), nI_1]) N 0 whf (Nat.zero_le _) (by omega)
theorem m_byteAt {k : Nat} {won : Int32} {wof : Nat → Int32} {B : Nat → Nat} (h : Mw k won wof B) {j : Nat} (hj : j < k) : f_Mo_byteAt (nI j) won wof = some (nI (B j)) := by
  obtain ⟨rfl, h1, h2⟩ := h
  unfold f_Mo_byteAt j_Mo_byteAt_0
  rw [if_neg (nI_pos (by omega)), if_pos (nI_lt hj (by omega)), as_of (vp_in_nI (by omega) (by omega)), nI_clamp (by omega), (h2 j hj).2]
theorem m_byteAtOut {k : Nat} {won : Int32} {wof : Nat → Int32} {B : Nat → Nat} (h : Mw k won wof B) {x : Int32} (hx : x < 0 ∨ nI k ≤ x) : f_Mo_byteAt x won wof = some (-1) := by
  obtain ⟨rfl, h1, h2⟩ := h
  unfold f_Mo_byteAt j_Mo_byteAt_0 j_Mo_byteAt_12
  by_cases h0 : x < 0
  · rw [if_pos h0]
  · rw [if_neg h0, if_neg (fun q => absurd (hx.resolve_left h0) (by
      intro q2
      have a1 := Int32.lt_iff_toInt_lt.mp q
      have a2 := Int32.le_iff_toInt_le.mp q2
      omega))]
