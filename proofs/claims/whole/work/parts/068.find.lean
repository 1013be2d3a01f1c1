/-! The class's search. -/
theorem same_loop {L k : Nat} {n : Int32} {f : Nat → Int32} {B : Nat → Nat} (h : Rw L k n f B) {q p m : Nat} (hq : q ≤ p) (hm : p + m ≤ k) : ∀ (r fuel i : Nat), i + r = m → r < fuel → loop1 (b_Row_same_38 L (nI q) (nI p) (nI m) f) fuel (nI i) = some (nI (al B q p r i)) := by
  obtain ⟨rfl, h1, h2, h3⟩ := h
  intro r
  induction r with
  | zero =>
    intro fuel i hi hf
    obtain ⟨fuel, rfl⟩ : ∃ z, fuel = z + 1 := ⟨fuel - 1, by omega⟩
    rw [loop1_s, b_Row_same_38, if_pos (nI_le (by omega) (by omega)), al_0, show i = m from by omega, mx]
    by_cases e : m = 0
    · subst e; rfl
    · rw [if_pos (show (0 : Int32) < nI m from nI_lt (a := 0) (by omega) (by omega))]
  | succ r ih =>
    intro fuel i hi hf
    obtain ⟨fuel, rfl⟩ : ∃ z, fuel = z + 1 := ⟨fuel - 1, by omega⟩
    rw [loop1_s, b_Row_same_38, if_neg (nI_ge (by omega) (by omega)), nI_add, nI_add, as_of (vp_in_nI (by omega) (by omega)), as_of (vp_in_nI (by omega) (by omega)), nI_clamp (by omega), nI_clamp (by omega), (h3 (q + i) (by omega)).2, (h3 (p + i) (by omega)).2, al_s]
    by_cases e : B (q + i) = B (p + i)
    · rw [if_pos (by rw [e]), if_pos e, nI_1]
      exact ih fuel (i + 1) (by omega) (by omega)
    · rw [if_neg (fun z => e ((sb_inj (h3 (q + i) (by omega)).1 (h3 (p + i) (by omega)).1).mp z)), if_neg e]
theorem s_same {N L k : Nat} {n : Int32} {f : Nat → Int32} {B : Nat → Nat} (hN : 20000 < N) (h : Rw L k n f B) {q p e : Nat} (hq : q ≤ p) (hp : p ≤ e) (he : e ≤ k) : f_Row_same N L (nI q) (nI p) (nI e) n f = some (nI (al B q p (e - p) 0)) := by
  obtain ⟨rfl, h1, h2, h3⟩ := id h
  unfold f_Row_same
  rw [j_Row_same_0, if_neg (nIp (by omega)), if_neg (nI_nlt hq (by omega)), if_pos (show nI k ≤ Int32.ofNat L from nI_le h1 (by omega)), show mn (nI e) (nI k) = nI e from by
    unfold mn
    by_cases c : k < e
    · omega
    · rw [if_neg (nI_nlt (by omega) (by omega))], pk_sub hp]
  exact same_loop h hq (m := e - p) (by omega) (e - p) N 0 (by omega) (by omega)
/-- a slot that is looked at before it is used -/
theorem s_latest {s : Nat} (hs : s < 4096) (la : Nat → Int32) : f_Mat_latest (nI s) la = some (la s) := by
  unfold f_Mat_latest
  rw [j_Mat_latest_0, if_neg (nIp (by omega)), if_neg (show ¬ Int32.ofNat 4096 ≤ nI s from nI_ge (by omega) (by omega)), as_of (vp_in_nI hs (by decide)), nI_clamp (by omega)]
theorem s_setLatest {s : Nat} (hs : s < 4096) (la : Nat → Int32) (v : Int32) : f_Mat_setLatest (nI s) v la = some (upd la s v) := by
  unfold f_Mat_setLatest
  rw [j_Mat_setLatest_0, if_neg (nIp (by omega)), if_neg (show ¬ Int32.ofNat 4096 ≤ nI s from nI_ge (by omega) (by omega)), as_of (vp_in_nI hs (by decide)), nI_clamp (by omega)]
theorem chain_loop {k : Nat} {n : Int32} {f : Nat → Int32} {D : Nat → Nat} (h : Rw 16000 k n f D) {p : Nat} (hp : p + 3 ≤ k) : ∀ (m fuel c : Nat) (la ea : Nat → Int32), c + m = p → m < fuel → Chain (slotN D) c la ea → ∃ la' ea', loop3 (b_Mat_chainBelow_0 (nI p) n f) fuel (nI c) la ea = some (nI p, la', ea') ∧ Chain (slotN D) p la' ea' := by
  have hk := h.2.1
  intro m
  induction m with
  | zero =>
    intro fuel c la ea hc hf hC
    obtain ⟨fuel, rfl⟩ : ∃ z, fuel = z + 1 := ⟨fuel - 1, by omega⟩
    rw [show c = p from by omega] at hC ⊢
    refine ⟨la, ea, ?_, hC⟩
    rw [loop3_s, b_Mat_chainBelow_0, if_pos (nI_le (Nat.le_refl _) (by omega))]
  | succ m ih =>
    intro fuel c la ea hc hf hC
    obtain ⟨fuel, rfl⟩ : ∃ z, fuel = z + 1 := ⟨fuel - 1, by omega⟩
    have hs := slotN_lt D c
    rw [loop3_s, b_Mat_chainBelow_0, if_neg (nI_ge (by omega) (by omega)), if_neg (show ¬ Int32.ofNat 16000 ≤ nI c from nI_ge (by omega) (by omega)), bd1_of (s_word h (j := c) (by omega)), bd1_of (s_slot D c), bd1_of (s_latest hs la), as_of (vp_in_nI (by omega) (by decide)), bd1_of (s_setLatest hs la (nI c)), nI_clamp (by omega), show nI c + (1 : Int32) = nI (c + 1) from nI_1 c]
    exact ih fuel (c + 1) _ _ (by omega) (by omega) (hC.push hs)
theorem s_chain {N k : Nat} {n : Int32} {f : Nat → Int32} {D : Nat → Nat} (hN : 20000 < N) (h : Rw 16000 k n f D) {p c : Nat} (hp : p + 3 ≤ k) (hc : c ≤ p) {la ea : Nat → Int32} (hC : Chain (slotN D) c la ea) : ∃ la' ea', f_Mat_chainBelow N (nI p) n f (nI c) la ea = some (nI p, la', ea') ∧ Chain (slotN D) p la' ea' := chain_loop h hp (p - c) N c la ea (by omega) (by have := h.2.1; omega) hC
theorem s_enough {most way : Nat} (hm : most ≤ 16000) (hw : way ≤ 3) : f_Mat_enough (nI most) (nI way) = some (nI (enoughN most way)) := by
  unfold f_Mat_enough enoughN
  rw [j_Mat_enough_0]
  by_cases a : 2 ≤ way
  · rw [if_neg (show ¬ nI way < 2 from nI_nlt (b := 2) a (by omega)), if_pos a]
  · rw [if_pos (show nI way < 2 from nI_lt (b := 2) (by omega) (by decide)), if_neg a]
    by_cases b : way = 1
    · subst b
      rw [if_pos (show nI 1 = 1 from rfl)]
      by_cases c : 8 ≤ most
      · rw [if_neg (show ¬ nI most < 8 from nI_nlt (b := 8) c (by omega)), if_pos ⟨rfl, c⟩]; rfl
      · rw [if_pos (show nI most < 8 from nI_lt (b := 8) (by omega) (by decide)), if_neg (by omega)]; rfl
    · rw [if_neg (show ¬ nI way = 1 from fun z => b ((nI_eq (b := 1) (by omega) (by decide)).mp z)), if_neg (by omega)]; rfl
/-- what is held: the match's place where there is one -/
def heldQ (s : Nat × Nat) : Int32 := if s.1 = 0 then -1 else nI s.2
theorem s_hold {D : Nat → Nat} {q p most way : Nat} (hw : way ≤ 3) (hm : most ≤ 16000) (h4 : 4 ≤ most) (s : Nat × Nat) (hq : q ≤ 16000) (hs : s.1 < enoughN most way) (hs0 : s.1 = 0 ∨ 4 ≤ s.1) : f_Mat_hold (nI q) (nI (al D q p most 0)) (nI (enoughN most way)) (nI way) (heldQ s) (nI s.1) = some (heldQ (mstep D p most way s q), nI (mstep D p most way s q).1) := by
  have hl := al_le D q p most 0
  have hen : enoughN most way ≤ 16000 := by unfold enoughN; split <;> (try split) <;> omega
  generalize hal : al D q p most 0 = l at hl ⊢
  have key : better way s.1 l = true ↔ 4 ≤ l ∧ (s.1 = 0 ∨ enoughN most way ≤ l ∨ (2 ≤ way ∧ s.1 < l)) := by
    unfold better enoughN
    unfold enoughN at hs
    by_cases a : way = 0
    · subst a
      rw [if_pos rfl, decide_eq_true_iff]
      rw [if_neg (by omega), if_neg (by omega)] at hs ⊢
      omega
    · rw [if_neg a]
      by_cases b : way = 1
      · subst b
        rw [if_pos rfl, decide_eq_true_iff]
        rw [if_neg (by omega)] at hs ⊢
        by_cases c : 8 ≤ most
        · rw [if_pos ⟨rfl, c⟩] at hs ⊢; omega
        · rw [if_neg (by omega)] at hs ⊢; omega
      · rw [if_neg b, decide_eq_true_iff]
        rw [if_pos (by omega)] at hs ⊢
        omega
  have c1 : (nI s.1 = 0) ↔ s.1 = 0 := nI_eq (b := 0) (by omega) (by decide)
  have c2 : (nI (enoughN most way) ≤ nI l) ↔ enoughN most way ≤ l := nI_leI (by omega) (by omega)
  have c3 : (nI way < 2) ↔ way < 2 := nI_ltI (b := 2) (by omega) (by decide)
  have c4 : (nI l ≤ nI s.1) ↔ l ≤ s.1 := nI_leI (by omega) (by omega)
  have c5 : (nI l < 4) ↔ l < 4 := nI_ltI (b := 4) (by omega) (by decide)
  have e31 : ∀ t : Int32, (t = 0 ∨ t = 1) → j_Mat_hold_31 (nI q) (nI l) t (heldQ s) (nI s.1) = if t = 1 ∧ 4 ≤ l then some (nI q, nI l) else some (heldQ s, nI s.1) := by
    intro t ht
    rw [j_Mat_hold_31]
    by_cases g : l < 4
    · rw [if_pos (c5.mpr g), if_neg (by omega)]
    · rw [if_neg (fun z => g (c5.mp z))]
      rcases ht with rfl | rfl
      · rw [if_pos rfl, if_neg (fun z => absurd z.1 (by decide))]
      · rw [if_neg (by decide), if_pos ⟨rfl, by omega⟩]
  have res : ∀ b : Bool, b = better way s.1 l → (if b = true then some (nI q, nI l) else some (heldQ s, nI s.1)) = some (heldQ (mstep D p most way s q), nI (mstep D p most way s q).1) := by
    intro b hb
    unfold mstep
    rw [hal]
    by_cases g : better way s.1 l = true
    · rw [hb, g, if_pos rfl, if_pos rfl]
      have : 4 ≤ l := (key.mp g).1
      unfold heldQ
      rw [if_neg (by show ¬ l = 0; omega)]
    · have g' : better way s.1 l = false := by simpa using g
      rw [hb, g', if_neg (by decide), if_neg (by decide)]
  rw [← res (better way s.1 l) rfl]
  unfold f_Mat_hold
  rw [j_Mat_hold_0]
  by_cases g : better way s.1 l = true
  · rw [if_pos g]
    obtain ⟨g4, g5⟩ := key.mp g
    have e1 : j_Mat_hold_26 (nI q) (nI l) (heldQ s) (nI s.1) = some (nI q, nI l) := by
      rw [j_Mat_hold_26, e31 1 (Or.inr rfl), if_pos ⟨rfl, g4⟩]
    by_cases a : s.1 = 0
    · rw [if_pos (c1.mpr a), e1]
    · rw [if_neg (fun z => a (c1.mp z))]
      by_cases b : enoughN most way ≤ l
      · rw [if_pos (c2.mpr b), e1]
      · rw [if_neg (fun z => b (c2.mp z)), if_neg (fun z => by have := c3.mp z; omega), if_neg (fun z => by have := c4.mp z; omega), e1]
  · rw [if_neg g]
    have g6 : ¬ (4 ≤ l ∧ (s.1 = 0 ∨ enoughN most way ≤ l ∨ (2 ≤ way ∧ s.1 < l))) := fun z => g (key.mpr z)
    have e0 : j_Mat_hold_30 (nI q) (nI l) (heldQ s) (nI s.1) = some (heldQ s, nI s.1) := by
      rw [j_Mat_hold_30, e31 0 (Or.inl rfl), if_neg (fun z => absurd z.1 (by decide))]
    have e1 : ¬ 4 ≤ l → j_Mat_hold_26 (nI q) (nI l) (heldQ s) (nI s.1) = some (heldQ s, nI s.1) := fun z => by
      rw [j_Mat_hold_26, e31 1 (Or.inr rfl), if_neg (fun y => z y.2)]
    by_cases a : s.1 = 0
    · rw [if_pos (c1.mpr a), e1 (by omega)]
    · rw [if_neg (fun z => a (c1.mp z))]
      by_cases b : enoughN most way ≤ l
      · rw [if_pos (c2.mpr b), e1 (by omega)]
      · rw [if_neg (fun z => b (c2.mp z))]
        by_cases d : way < 2
        · rw [if_pos (c3.mpr d), e0]
        · rw [if_neg (fun z => d (c3.mp z))]
          by_cases e : l ≤ s.1
          · rw [if_pos (c4.mpr e), e0]
          · rw [if_neg (fun z => e (c4.mp z)), e1 (by omega)]
