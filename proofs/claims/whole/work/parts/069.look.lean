/-! The class's search: find and look. -/
theorem loop4_s {α β γ δ ρ : Type} (b : (α → β → γ → δ → Option ρ) → α → β → γ → δ → Option ρ) (n : Nat) (x : α) (y : β) (z : γ) (u : δ) : loop4 b (n + 1) x y z u = b (loop4 b n) x y z u := rfl
theorem mstep_inv {D : Nat → Nat} {p most way q : Nat} {s : Nat × Nat} (h : s.1 = 0 ∨ 4 ≤ s.1) (hm : s.1 ≤ most) : ((mstep D p most way s q).1 = 0 ∨ 4 ≤ (mstep D p most way s q).1) ∧ (mstep D p most way s q).1 ≤ most := by
  unfold mstep
  have hl := al_le D q p most 0
  by_cases g : better way s.1 (al D q p most 0) = true
  · rw [if_pos g]
    refine ⟨Or.inr ?_, by show al D q p most 0 ≤ most; omega⟩
    show 4 ≤ al D q p most 0
    rcases Nat.lt_or_ge (al D q p most 0) 4 with c | c
    · rw [nb_lt4 c] at g; cases g
    · exact c
  · rw [if_neg g]; exact ⟨h, hm⟩
theorem mfind_inv {D : Nat → Nat} {p most way : Nat} : ∀ (q : Nat) (s : Nat × Nat), (s.1 = 0 ∨ 4 ≤ s.1) → s.1 ≤ most → ((mfind D p most way q s).1 = 0 ∨ 4 ≤ (mfind D p most way q s).1) ∧ (mfind D p most way q s).1 ≤ most := by
  intro q
  induction q with
  | zero => intro s h hm; exact ⟨h, hm⟩
  | succ q ih => intro s h hm; rw [mfind_s]; exact ih _ (mstep_inv h hm).1 (mstep_inv h hm).2
theorem mfind_src {D : Nat → Nat} {p most way : Nat} : ∀ (q : Nat) (s : Nat × Nat), (s.1 = 0 ∨ s.2 < p) → q ≤ p → (mfind D p most way q s).1 = 0 ∨ (mfind D p most way q s).2 < p := by
  intro q
  induction q with
  | zero => intro s h _; exact h
  | succ q ih =>
    intro s h hq
    rw [mfind_s]
    refine ih _ ?_ (by omega)
    unfold mstep
    by_cases g : better way s.1 (al D q p most 0) = true
    · rw [if_pos g]; exact Or.inr (by show q < p; omega)
    · rw [if_neg g]; exact h
theorem find_loop {N k : Nat} {n : Int32} {f : Nat → Int32} {D : Nat → Nat} (hN : 20000 < N) (h : Rw 16000 k n f D) {p e way : Nat} (hw : way ≤ 3) (hp : p + 4 ≤ e) (he : e ≤ k) {la ea : Nat → Int32} (hC : Chain (slotN D) p la ea) : ∀ (r fuel i : Nat) (s : Nat × Nat), r < fuel → i + r ≤ p → (s.1 = 0 ∨ 4 ≤ s.1) → s.1 ≤ e - p → s.1 < enoughN (e - p) way → loop4 (b_Mat_find_39 N (nI p) (nI e) (nI way) (nI (enoughN (e - p) way)) n f ea) fuel (lastq (slotN D) (slotN D p) r) (nI i) (heldQ s) (nI s.1) = some (heldQ (mfind D p (e - p) way r s), nI (mfind D p (e - p) way r s).1) := by
  have hk := h.2.1
  have hen : enoughN (e - p) way ≤ e - p ∨ enoughN (e - p) way ≤ 4 := by unfold enoughN; split <;> (try split) <;> omega
  intro r
  induction r using Nat.strongRecOn with
  | ind r ih =>
    intro fuel i s hf hi hs0 hsm hse
    obtain ⟨fuel, rfl⟩ : ∃ z, fuel = z + 1 := ⟨fuel - 1, by omega⟩
    rw [loop4_s, b_Mat_find_39]
    by_cases c0 : p = i
    · rw [if_pos (nI_le (by omega) (by omega)), show r = 0 from by omega, mfind_0]
    · rw [if_neg (nI_ge (by omega) (by omega))]
      rcases lastq_is (slotN D) (slotN D p) r with ⟨e1, e2⟩ | ⟨q, e1, e2, e3, e4⟩
      · rw [e1, if_pos (by decide), mfind_skip (q0 := 0) r (Nat.zero_le _) (fun j _ hj => slot_al (e2 j hj)), mfind_0]
      · rw [e2, if_neg (nI_pos (by omega)), if_neg (show ¬ Int32.ofNat 16000 ≤ nI q from nI_ge (by omega) (by omega)), nI_add, nI_add, bd1_of (s_get h (j := q + s.1) (by omega)), bd1_of (s_get h (j := p + s.1) (by omega))]
        have hfin : mfind D p (e - p) way r s = mfind D p (e - p) way q (mstep D p (e - p) way s q) := by
          rw [mfind_skip (q0 := q + 1) r (by omega) (fun j h1 h2 => slot_al (e4 j (by omega) h2)), mfind_s]
        obtain ⟨i1, i2⟩ := mstep_inv (D := D) (p := p) (way := way) (q := q) hs0 hsm
        have fin : ∀ s' : Nat × Nat, s' = mstep D p (e - p) way s q → j_Mat_find_110 (nI (enoughN (e - p) way)) (nI q) (nI i) (heldQ s') (nI s'.1) ea (loop4 (b_Mat_find_39 N (nI p) (nI e) (nI way) (nI (enoughN (e - p) way)) n f ea) fuel) = some (heldQ (mfind D p (e - p) way r s), nI (mfind D p (e - p) way r s).1) := by
          intro s' hs'
          rw [hfin, ← hs']
          rw [← hs'] at i1 i2
          rw [j_Mat_find_110]
          by_cases g : s'.1 < enoughN (e - p) way
          · rw [if_pos (nI_lt g (by omega)), as_of (vp_in_nI (by omega) (by decide)), nI_clamp (by omega), hC.2 q (by omega), e3, nI_1]
            exact ih q e1 fuel (i + 1) s' (by omega) (by omega) i1 i2 g
          · rw [if_neg (nI_nlt (by omega) (by omega)), mfind_enough (by omega)]
        by_cases g : D (q + s.1) = D (p + s.1)
        · rw [if_pos (by rw [g]), bd1_of (s_same hN h (q := q) (p := p) (e := e) (by omega) (by omega) he), bd2_of (s_hold (D := D) (q := q) (p := p) hw (by omega) (by omega) s (by omega) hse hs0)]
          exact fin _ rfl
        · rw [if_neg (fun z => g ((nI_eq (by have := (h.2.2.2 (q + s.1) (by omega)).1; omega) (by have := (h.2.2.2 (p + s.1) (by omega)).1; omega)).mp z))]
          exact fin s (mstep_no (nb_le (al_stop D q p g))).symm
theorem s_find {N k : Nat} {n : Int32} {f : Nat → Int32} {D : Nat → Nat} (hN : 20000 < N) (h : Rw 16000 k n f D) {p e way : Nat} (hw : way ≤ 3) (hp : p + 4 ≤ e) (he : e ≤ k) {la ea : Nat → Int32} (hC : Chain (slotN D) p la ea) : f_Mat_find N (nI p) (nI e) (nI way) n f la ea = some (heldQ (mfind D p (e - p) way p (0, 0)), nI (mfind D p (e - p) way p (0, 0)).1) := by
  have hk := h.2.1
  unfold f_Mat_find
  rw [j_Mat_find_0, pk_sub (by omega), bd1_of (s_enough (by omega) hw), bd1_of (s_word h (j := p) (by omega)), bd1_of (s_slot D p), bd1_of (s_latest (slotN_lt D p) la), hC.1 _ (slotN_lt D p)]
  exact find_loop hN h hw hp he hC p N 0 (0, 0) (by omega) (by omega) (Or.inl rfl) (Nat.zero_le _) (by
    show 0 < enoughN (e - p) way
    unfold enoughN
    split <;> (try split) <;> omega)
/-- the match that a way takes at p, of n bytes: its length, 0 for none; its place -/
def rawN (D : Nat → Nat) (n p way : Nat) : Nat × Nat := mfind D p (n - 5 - p) way p (0, 0)
def lookN (D : Nat → Nat) (n p way : Nat) : Nat := if way = 3 ∧ (rawN D n p way).1 ≠ 0 ∧ p + 12 < n ∧ (rawN D n p way).1 < (rawN D n (p + 1) way).1 then 0 else (rawN D n p way).1
theorem rawN_inv (D : Nat → Nat) (n p way : Nat) : ((rawN D n p way).1 = 0 ∨ 4 ≤ (rawN D n p way).1) ∧ (rawN D n p way).1 ≤ n - 5 - p := mfind_inv p (0, 0) (Or.inl rfl) (Nat.zero_le _)
theorem lookN_inv (D : Nat → Nat) (n p way : Nat) : (lookN D n p way = 0 ∨ 4 ≤ lookN D n p way) ∧ lookN D n p way ≤ n - 5 - p ∧ (lookN D n p way ≠ 0 → lookN D n p way = (rawN D n p way).1) := by
  have h := rawN_inv D n p way
  unfold lookN
  split
  · exact ⟨Or.inl rfl, Nat.zero_le _, fun z => absurd rfl z⟩
  · exact ⟨h.1, h.2, fun _ => rfl⟩
theorem s_look {N k : Nat} {n : Int32} {f : Nat → Int32} {D : Nat → Nat} (hN : 20000 < N) (h : Rw 16000 k n f D) {p c way : Nat} (hw : way ≤ 3) (hp : p + 12 ≤ k) (hc : c ≤ p) {la ea : Nat → Int32} (hC : Chain (slotN D) c la ea) : ∃ c' ms ml la' ea', f_Mat_look N (nI p) (nI (k - 5)) (nI (k - 12)) (nI way) (nI c) n f la ea = some (nI (lookN D k p way), nI c', ms, ml, la', ea') ∧ Chain (slotN D) c' la' ea' ∧ c' ≤ p + 1 ∧ (lookN D k p way ≠ 0 → ms = nI (rawN D k p way).2) := by
  have hk := h.2.1
  obtain ⟨la1, ea1, e1, C1⟩ := s_chain hN h (p := p) (c := c) (by omega) hc hC
  have e2 := s_find hN h (p := p) (e := k - 5) hw (by omega) (by omega) C1
  obtain ⟨v1, v2⟩ := rawN_inv D k p way
  have e2 : f_Mat_find N (nI p) (nI (k - 5)) (nI way) n f la1 ea1 = some (heldQ (rawN D k p way), nI (rawN D k p way).1) := e2
  have c0 : (nI (rawN D k p way).1 = 0) ↔ (rawN D k p way).1 = 0 := nI_eq (b := 0) (by omega) (by decide)
  unfold f_Mat_look
  rw [j_Mat_look_0, bd3_of e1, bd2_of e2]
  have held : (rawN D k p way).1 ≠ 0 → heldQ (rawN D k p way) = nI (rawN D k p way).2 := fun z => by unfold heldQ; rw [if_neg z]
  by_cases a : way = 3
  · rw [if_pos (show nI way = 3 from by rw [a]; rfl)]
    by_cases b : (rawN D k p way).1 = 0
    · have : lookN D k p way = (rawN D k p way).1 := by unfold lookN; rw [if_neg (fun z => z.2.1 b)]
      rw [if_pos (c0.mpr b), this]
      exact ⟨p, _, _, la1, ea1, rfl, C1, by omega, fun z => held z⟩
    · rw [if_neg (fun z => b (c0.mp z))]
      by_cases d : p + 12 < k
      · rw [if_pos (nI_lt (by omega) (by omega)), show nI p + (1 : Int32) = nI (p + 1) from nI_1 p]
        obtain ⟨la2, ea2, e3, C2⟩ := s_chain hN h (p := p + 1) (c := p) (by omega) (by omega) C1
        have e4 := s_find hN h (p := p + 1) (e := k - 5) hw (by omega) (by omega) C2
        have e4 : f_Mat_find N (nI (p + 1)) (nI (k - 5)) (nI way) n f la2 ea2 = some (heldQ (rawN D k (p + 1) way), nI (rawN D k (p + 1) way).1) := e4
        have w2 := (rawN_inv D k (p + 1) way).2
        rw [bd3_of e3, bd2_of e4]
        by_cases g : (rawN D k (p + 1) way).1 ≤ (rawN D k p way).1
        · have : lookN D k p way = (rawN D k p way).1 := by unfold lookN; rw [if_neg (fun z => by omega)]
          rw [if_pos (nI_le g (by omega)), j_Mat_look_81, this]
          exact ⟨p + 1, _, _, la2, ea2, rfl, C2, by omega, fun z => held z⟩
        · have : lookN D k p way = 0 := by unfold lookN; rw [if_pos ⟨a, b, d, by omega⟩]
          rw [if_neg (nI_ge (by omega) (by omega)), j_Mat_look_81, this]
          exact ⟨p + 1, _, _, la2, ea2, rfl, C2, by omega, fun z => absurd rfl z⟩
      · have : lookN D k p way = (rawN D k p way).1 := by unfold lookN; rw [if_neg (fun z => d z.2.2.1)]
        rw [if_neg (nI_nlt (by omega) (by omega)), this]
        exact ⟨p, _, _, la1, ea1, rfl, C1, by omega, fun z => held z⟩
  · have : lookN D k p way = (rawN D k p way).1 := by unfold lookN; rw [if_neg (fun z => a z.1)]
    rw [if_neg (show ¬ nI way = 3 from fun z => a ((nI_eq (b := 3) (by omega) (by decide)).mp z)), this]
    exact ⟨p, _, _, la1, ea1, rfl, C1, by omega, fun z => held z⟩
