/-! Matches: what is looked for, and that a chain of places with one slot finds it. -/
/-- how many bytes from q and from p on are alike: n so far, at most m more -/
def al (D : Nat → Nat) (q p : Nat) : Nat → Nat → Nat
  | 0, n => n
  | m + 1, n => if D (q + n) = D (p + n) then al D q p m (n + 1) else n
theorem al_0 (D : Nat → Nat) (q p n : Nat) : al D q p 0 n = n := rfl
theorem al_s (D : Nat → Nat) (q p m n : Nat) : al D q p (m + 1) n = if D (q + n) = D (p + n) then al D q p m (n + 1) else n := rfl
theorem al_le (D : Nat → Nat) (q p : Nat) : ∀ m n, n ≤ al D q p m n ∧ al D q p m n ≤ n + m := by
  intro m
  induction m with
  | zero => intro n; rw [al_0]; omega
  | succ m ih =>
    intro n
    rw [al_s]
    by_cases e : D (q + n) = D (p + n)
    · rw [if_pos e]; have := ih (n + 1); omega
    · rw [if_neg e]; omega
theorem al_eq (D : Nat → Nat) (q p : Nat) : ∀ m n i, n ≤ i → i < al D q p m n → D (q + i) = D (p + i) := by
  intro m
  induction m with
  | zero => intro n i h1 h2; rw [al_0] at h2; omega
  | succ m ih =>
    intro n i h1 h2
    rw [al_s] at h2
    by_cases e : D (q + n) = D (p + n)
    · rw [if_pos e] at h2
      by_cases e2 : i = n
      · subst e2; exact e
      · exact ih (n + 1) i (by omega) h2
    · rw [if_neg e] at h2; omega
theorem al_stop (D : Nat → Nat) (q p : Nat) {m i : Nat} (h : D (q + i) ≠ D (p + i)) : al D q p m 0 ≤ i := by
  rcases Nat.lt_or_ge i (al D q p m 0) with c | c
  · exact absurd (al_eq D q p m 0 i (Nat.zero_le _) c) h
  · exact c
def better (way best l : Nat) : Bool := if way = 0 then decide (best = 0 ∧ 4 ≤ l) else if way = 1 then decide ((best = 0 ∧ 4 ≤ l) ∨ (0 < best ∧ best < 8 ∧ 8 ≤ l)) else decide (4 ≤ l ∧ best < l)
def mstep (D : Nat → Nat) (p most way : Nat) (s : Nat × Nat) (q : Nat) : Nat × Nat := if better way s.1 (al D q p most 0) = true then (al D q p most 0, q) else s
/-- all places below q, the nearest first -/
def mfind (D : Nat → Nat) (p most way : Nat) : Nat → Nat × Nat → Nat × Nat
  | 0, s => s
  | q + 1, s => mfind D p most way q (mstep D p most way s q)
theorem mfind_0 (D : Nat → Nat) (p most way : Nat) (s : Nat × Nat) : mfind D p most way 0 s = s := rfl
theorem mfind_s (D : Nat → Nat) (p most way q : Nat) (s : Nat × Nat) : mfind D p most way (q + 1) s = mfind D p most way q (mstep D p most way s q) := rfl
theorem nb_lt4 {way best l : Nat} (h : l < 4) : better way best l = false := by
  unfold better
  by_cases a : way = 0
  · rw [if_pos a]; exact decide_eq_false (by omega)
  · rw [if_neg a]
    by_cases b : way = 1
    · rw [if_pos b]; exact decide_eq_false (by omega)
    · rw [if_neg b]; exact decide_eq_false (by omega)
theorem nb_le {way best l : Nat} (h : l ≤ best) : better way best l = false := by
  unfold better
  by_cases a : way = 0
  · rw [if_pos a]; exact decide_eq_false (by omega)
  · rw [if_neg a]
    by_cases b : way = 1
    · rw [if_pos b]; exact decide_eq_false (by omega)
    · rw [if_neg b]; exact decide_eq_false (by omega)
/-- the length that none further back can better -/
def enoughN (most way : Nat) : Nat := if 2 ≤ way then most else if way = 1 ∧ 8 ≤ most then 8 else 4
theorem nb_enough {way best l most : Nat} (h : enoughN most way ≤ best) (hl : l ≤ most) : better way best l = false := by
  unfold enoughN at h
  unfold better
  by_cases a : way = 0
  · subst a
    rw [if_neg (by omega), if_neg (by omega)] at h
    rw [if_pos rfl]; exact decide_eq_false (by omega)
  · rw [if_neg a]
    by_cases b : way = 1
    · subst b
      rw [if_neg (by omega)] at h
      rw [if_pos rfl]
      by_cases c : 8 ≤ most
      · rw [if_pos ⟨rfl, c⟩] at h; exact decide_eq_false (by omega)
      · rw [if_neg (by omega)] at h; exact decide_eq_false (by omega)
    · rw [if_pos (by omega)] at h
      rw [if_neg b]; exact decide_eq_false (by omega)
theorem mstep_no {D : Nat → Nat} {p most way : Nat} {s : Nat × Nat} {q : Nat} (h : better way s.1 (al D q p most 0) = false) : mstep D p most way s q = s := by
  unfold mstep
  rw [h]
  rfl
theorem mfind_enough {D : Nat → Nat} {p most way : Nat} {s : Nat × Nat} (h : enoughN most way ≤ s.1) : ∀ q, mfind D p most way q s = s := by
  intro q
  induction q with
  | zero => rfl
  | succ q ih => rw [mfind_s, mstep_no (nb_enough h (by have := al_le D q p most 0; omega)), ih]
/-- places whose slot is another one are passed over -/
theorem mfind_skip {D : Nat → Nat} {p most way : Nat} {s : Nat × Nat} {q0 : Nat} : ∀ q, q0 ≤ q → (∀ i, q0 ≤ i → i < q → al D i p most 0 < 4) → mfind D p most way q s = mfind D p most way q0 s := by
  intro q
  induction q with
  | zero => intro h _; rw [show q0 = 0 from by omega]
  | succ q ih =>
    intro h hs
    by_cases e : q0 = q + 1
    · rw [e]
    · rw [mfind_s, mstep_no (nb_lt4 (hs q (by omega) (by omega))), ih (by omega) (fun i h1 h2 => hs i h1 (by omega))]
/-- the latest place below c with slot s, or -1 -/
def lastq (sg : Nat → Nat) (s : Nat) : Nat → Int32
  | 0 => -1
  | c + 1 => if sg c = s then nI c else lastq sg s c
theorem lastq_0 (sg : Nat → Nat) (s : Nat) : lastq sg s 0 = -1 := rfl
theorem lastq_s (sg : Nat → Nat) (s c : Nat) : lastq sg s (c + 1) = if sg c = s then nI c else lastq sg s c := rfl
theorem lastq_is (sg : Nat → Nat) (s : Nat) : ∀ c, (lastq sg s c = -1 ∧ ∀ i, i < c → sg i ≠ s) ∨ ∃ q, q < c ∧ lastq sg s c = nI q ∧ sg q = s ∧ ∀ i, q < i → i < c → sg i ≠ s := by
  intro c
  induction c with
  | zero => exact Or.inl ⟨rfl, fun i h => by omega⟩
  | succ c ih =>
    rw [lastq_s]
    by_cases e : sg c = s
    · rw [if_pos e]
      exact Or.inr ⟨c, by omega, rfl, e, fun i h1 h2 => by omega⟩
    · rw [if_neg e]
      rcases ih with ⟨h1, h2⟩ | ⟨q, h1, h2, h3, h4⟩
      · exact Or.inl ⟨h1, fun i hi => by
          by_cases e2 : i = c
          · rw [e2]; exact e
          · exact h2 i (by omega)⟩
      · exact Or.inr ⟨q, by omega, h2, h3, fun i a b => by
          by_cases e2 : i = c
          · rw [e2]; exact e
          · exact h4 i a (by omega)⟩
def Chain (sg : Nat → Nat) (c : Nat) (la ea : Nat → Int32) : Prop := (∀ s, s < 4096 → la s = lastq sg s c) ∧ ∀ q, q < c → ea q = lastq sg (sg q) q
theorem Chain.push {sg : Nat → Nat} {c : Nat} {la ea : Nat → Int32} (h : Chain sg c la ea) (hs : sg c < 4096) : Chain sg (c + 1) (upd la (sg c) (nI c)) (upd ea c (la (sg c))) := by
  constructor
  · intro s hs2
    rw [lastq_s]
    unfold upd
    by_cases e : s = sg c
    · rw [if_pos e, if_pos e.symm]
    · rw [if_neg e, if_neg (fun z => e z.symm)]; exact h.1 s hs2
  · intro q hq
    unfold upd
    by_cases e : q = c
    · subst e; rw [if_pos rfl]; exact h.1 _ hs
    · rw [if_neg e]; exact h.2 q (by omega)
theorem Chain.pop {sg : Nat → Nat} {c : Nat} {la ea : Nat → Int32} (h : Chain sg (c + 1) la ea) (hs : sg c < 4096) : Chain sg c (upd la (sg c) (ea c)) ea := by
  constructor
  · intro s hs2
    unfold upd
    by_cases e : s = sg c
    · rw [if_pos e, h.2 c (by omega), e]
    · rw [if_neg e, h.1 s hs2, lastq_s, if_neg (fun z => e z.symm)]
  · exact fun q hq => h.2 q (by omega)
/-- the slot of four bytes -/
def slotN (D : Nat → Nat) (q : Nat) : Nat := vN (nI (W4 D q) * (-1640531535)) / 2 ^ 20
theorem slotN_lt (D : Nat → Nat) (q : Nat) : slotN D q < 4096 := by
  unfold slotN
  have := vN_lt (nI (W4 D q) * (-1640531535))
  omega
theorem s_slot (D : Nat → Nat) (q : Nat) : f_Mat_slot (nI (W4 D q)) = some (nI (slotN D q)) := by
  unfold f_Mat_slot
  rw [j_Mat_slot_0]
  congr 1
  apply vN_inj
  rw [show (20 : Int32) = nI 20 from rfl, vN_us (by decide), vN_nI, slotN, Nat.mod_eq_of_lt]
  have := slotN_lt D q
  unfold slotN at this
  omega
theorem slot_al {D : Nat → Nat} {q p most : Nat} (h : slotN D q ≠ slotN D p) : al D q p most 0 < 4 := by
  rcases Nat.lt_or_ge (al D q p most 0) 4 with c | c
  · exact c
  · exfalso
    apply h
    have e : ∀ i, i < 4 → D (q + i) = D (p + i) := fun i hi => al_eq D q p most 0 i (Nat.zero_le _) (by omega)
    have w : W4 D q = W4 D p := by
      unfold W4
      rw [show D q = D p from e 0 (by decide), e 1 (by decide), e 2 (by decide), e 3 (by decide)]
    unfold slotN
    rw [w]
