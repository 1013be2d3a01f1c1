/-! Reading a block: what comes of it. -/
/-- bytes are added, up to the first that is not 255: the sum and the place behind; none when they end -/
def addN (G : Nat → Nat) : Nat → Nat → Nat → Option (Nat × Nat)
  | 0, _, _ => none
  | m + 1, t, j => if G j = 255 then addN G m (t + 255) (j + 1) else some (t + G j, j + 1)
theorem addN_0 (G : Nat → Nat) (t j : Nat) : addN G 0 t j = none := rfl
theorem addN_s (G : Nat → Nat) (m t j : Nat) : addN G (m + 1) t j = if G j = 255 then addN G m (t + 255) (j + 1) else some (t + G j, j + 1) := rfl
def numN (G : Nat → Nat) (e h j : Nat) : Option (Nat × Nat) := if h < 15 then some (h, j) else addN G (e - j) h j
theorem addN_at {G : Nat → Nat} : ∀ (m t j n k : Nat), addN G m t j = some (n, k) → j < k ∧ k ≤ j + m ∧ n ≤ t + 255 * m ∨ (∃ i, i < m ∧ 255 < G (j + i)) := by
  intro m
  induction m with
  | zero => intro t j n k h; rw [addN_0] at h; cases h
  | succ m ih =>
    intro t j n k h
    rw [addN_s] at h
    by_cases c : G j = 255
    · rw [if_pos c] at h
      rcases ih (t + 255) (j + 1) n k h with h1 | ⟨i, h1, h2⟩
      · left; omega
      · right; exact ⟨i + 1, by omega, by rw [show j + (i + 1) = j + 1 + i from by omega]; exact h2⟩
    · rw [if_neg c] at h
      cases h
      by_cases d : 255 < G j
      · right; exact ⟨0, by omega, d⟩
      · left; omega
abbrev Rd : Type := Nat × Nat × Nat × (Nat → Nat)
/-- fault (0: none), its place, how many bytes then, and they: a block from j to e, of at most lim bytes in all -/
def rd (G : Nat → Nat) (e lim : Nat) : Nat → Nat → Nat → (Nat → Nat) → Rd
  | 0, _, v, V => (1, e, v, V)
  | f + 1, j, v, V =>
    if e ≤ j then (1, e, v, V) else
    match numN G e (G j / 16) (j + 1) with
    | none => (1, e, v, V)
    | some (n, j1) =>
      if min n (min (e - j1) (lim - v)) < n then (if e ≤ j1 + min n (min (e - j1) (lim - v)) then (1, e, v + min n (min (e - j1) (lim - v)), catB V v G j1) else (3, j1 + min n (min (e - j1) (lim - v)), v + min n (min (e - j1) (lim - v)), catB V v G j1))
      else if e ≤ j1 + n then (0, e, v + n, catB V v G j1)
      else if e < j1 + n + 2 then (1, e, v + n, catB V v G j1)
      else if G (j1 + n) + 256 * G (j1 + n + 1) = 0 ∨ v + n < G (j1 + n) + 256 * G (j1 + n + 1) then (2, j1 + n, v + n, catB V v G j1)
      else match numN G e (G j % 16) (j1 + n + 2) with
        | none => (1, e, v + n, catB V v G j1)
        | some (m, j3) => if lim < v + n + (m + 4) then (3, j1 + n, v + n, catB V v G j1) else rd G e lim f j3 (v + n + (m + 4)) (perB (catB V v G j1) (v + n) (G (j1 + n) + 256 * G (j1 + n + 1)))
theorem rd_end {G : Nat → Nat} {e lim f j v : Nat} {V : Nat → Nat} (h : e ≤ j) : rd G e lim f j v V = (1, e, v, V) := by
  cases f with
  | zero => rfl
  | succ f => rw [rd, if_pos h]
theorem grown_loop {kg : Nat} {gn : Int32} {gf : Nat → Int32} {G : Nat → Nat} (hG : Rw 8000 kg gn gf G) {e : Nat} (he : e ≤ kg) : ∀ (m fuel t j : Nat), j + m = e → m < fuel → t + 255 * m < 3000000 → loop2 (b_BR_grown_10 (nI e) gn gf) fuel (nI t) (nI j) = match addN G m t j with
    | none => some (-1, nI e)
    | some (n, k) => some (nI n, nI k) := by
  have hk := hG.2.1
  intro m
  induction m with
  | zero =>
    intro fuel t j hj hf ht
    obtain ⟨fuel, rfl⟩ : ∃ z, fuel = z + 1 := ⟨fuel - 1, by omega⟩
    rw [loop2_s, b_BR_grown_10, if_pos (nI_le (by omega) (by omega)), addN_0, show j = e from by omega]
  | succ m ih =>
    intro fuel t j hj hf ht
    obtain ⟨fuel, rfl⟩ : ∃ z, fuel = z + 1 := ⟨fuel - 1, by omega⟩
    have hb := (hG.2.2.2 j (by omega)).1
    rw [loop2_s, b_BR_grown_10, if_neg (nI_ge (by omega) (by omega)), bd1_of (s_get hG (j := j) (by omega)), nI_add, show nI j + (1 : Int32) = nI (j + 1) from nI_1 j, addN_s]
    by_cases c : G j = 255
    · rw [if_pos (show nI (G j) = 255 from by rw [c]; rfl), if_pos c, c]
      exact ih fuel (t + 255) (j + 1) (by omega) (by omega) (by omega)
    · rw [if_neg (show ¬ nI (G j) = 255 from fun z => c ((nI_eq (b := 255) (by omega) (by decide)).mp z)), if_neg c]
theorem s_grown {N kg : Nat} {gn : Int32} {gf : Nat → Int32} {G : Nat → Nat} (hN : 20000 < N) (hG : Rw 8000 kg gn gf G) {e h j : Nat} (he : e ≤ kg) (hj : j ≤ e) (hh : h ≤ 15) : f_BR_grown N (nI h) (nI j) (nI e) gn gf = match numN G e h j with
    | none => some (-1, nI e)
    | some (n, k) => some (nI n, nI k) := by
  have hk := hG.2.1
  unfold f_BR_grown numN
  rw [j_BR_grown_0]
  by_cases c : h < 15
  · rw [if_neg (show ¬ (15 : Int32) ≤ nI h from nI_ge (b := 15) c (by decide)), if_pos c]
  · rw [if_pos (show (15 : Int32) ≤ nI h from nI_le (a := 15) (by omega) (by omega)), if_neg c]
    exact grown_loop hG he (e - j) N h j (by omega) (by omega) (by omega)
theorem numN_ok {G : Nat → Nat} {kg e h j n k : Nat} (hB : ∀ i, i < kg → G i < 256) (he : e ≤ kg) (hk : kg ≤ 8000) (hj : j ≤ e) (hh : h ≤ 15) (q : numN G e h j = some (n, k)) : j ≤ k ∧ k ≤ e ∧ n ≤ 2100000 := by
  unfold numN at q
  by_cases c : h < 15
  · rw [if_pos c] at q; cases q; omega
  · rw [if_neg c] at q
    rcases addN_at _ _ _ _ _ q with h1 | ⟨i, h1, h2⟩
    · omega
    · have := hB (j + i) (by omega); omega
theorem s_pair {L k : Nat} {n : Int32} {f : Nat → Int32} {B : Nat → Nat} (h : Rw L k n f B) {j : Nat} (hj : j + 2 ≤ k) : f_Row_pair L (nI j) n f = some (nI (B j + 256 * B (j + 1))) := by
  obtain ⟨rfl, h1, h2, h3⟩ := h
  unfold f_Row_pair
  rw [j_Row_pair_0, if_neg (nIp (by omega)), show nI k - (2 : Int32) = nI (k - 2) from pk_sub (by omega : 2 ≤ k), if_neg (nI_nlt (by omega) (by omega)), if_pos (show nI k ≤ Int32.ofNat L from nI_le h1 (by omega)), show nI j + (1 : Int32) = nI (j + 1) from nI_1 j, as_of (vp_in_nI (by omega) (by omega)), as_of (vp_in_nI (by omega) (by omega)), nI_clamp (by omega), nI_clamp (by omega)]
  obtain ⟨a0, b0⟩ := h3 j (by omega)
  obtain ⟨a1, b1⟩ := h3 (j + 1) (by omega)
  rw [b0, b1, sb_and a0, sb_and a1]
  congr 1
  apply vN_inj
  rw [vN_or, show (8 : Int32) = nI 8 from rfl, vN_sl (by decide), vN_nI, vN_nI, vN_nI, Nat.mod_eq_of_lt (by omega : B j < 2 ^ 32), Nat.mod_eq_of_lt (by omega : B (j + 1) < 2 ^ 32), Nat.mod_eq_of_lt (by omega : B (j + 1) * 2 ^ 8 < 2 ^ 32), or_add (by omega : B j < 2 ^ 8), Nat.mod_eq_of_lt (by omega)]
  omega
/-- the bytes that a block's copies see: HISTORY, and what the row has from st on -/
def virt (H : Nat → Nat) (kh : Nat) (T : Nat → Nat) (st : Nat) : Nat → Nat := fun j => if j < kh then H j else T (st + (j - kh))
/-- the class's row to, as a reading has it: v bytes V in all, from the first k0 of T0 on -/
def To (H : Nat → Nat) (kh st k0 : Nat) (T0 : Nat → Nat) (v : Nat) (V : Nat → Nat) (tn : Int32) (tf : Nat → Int32) : Prop := ∃ kt T, Rw 8000 kt tn tf T ∧ k0 ≤ kt ∧ st ≤ k0 ∧ v + st = kh + kt ∧ (∀ j, j < v → V j = virt H kh T st j) ∧ ∀ j, j < k0 → T j = T0 j
