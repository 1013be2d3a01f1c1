/-! A sum is one of the bytes, wherever they stand. -/
theorem foldS_shift {st st' : Int32 → Nat → Int32} {d : Nat} : ∀ (m j j' : Nat) (h : Int32), (∀ i h, i < m → st h (j + d * i) = st' h (j' + d * i)) → foldS st d m j h = foldS st' d m j' h := by
  intro m
  induction m with
  | zero => intro j j' h _; rw [foldS_0, foldS_0]
  | succ m ih =>
    intro j j' h e
    have e0 := e 0 h (by omega)
    rw [Nat.mul_zero, Nat.add_zero, Nat.add_zero] at e0
    rw [foldS_s, foldS_s, e0]
    refine ih (j + d) (j' + d) _ (fun i h2 hi => ?_)
    have := e (i + 1) h2 (by omega)
    rw [Nat.mul_succ] at this
    rw [show j + d + d * i = j + (d * i + d) from by omega, show j' + d + d * i = j' + (d * i + d) from by omega]
    exact this
theorem W4_shift {B C : Nat → Nat} {a c n : Nat} (e : ∀ j, j < n → B (a + j) = C (c + j)) {i : Nat} (hi : i + 4 ≤ n) : W4 B (a + i) = W4 C (c + i) := by
  unfold W4
  rw [e i (by omega), show a + i + 1 = a + (i + 1) from by omega, show a + i + 2 = a + (i + 2) from by omega, show a + i + 3 = a + (i + 3) from by omega, e (i + 1) (by omega), e (i + 2) (by omega), e (i + 3) (by omega), show c + i + 1 = c + (i + 1) from by omega, show c + i + 2 = c + (i + 2) from by omega, show c + i + 3 = c + (i + 3) from by omega]
theorem sum_shift {B C : Nat → Nat} {a c n : Nat} (e : ∀ j, j < n → B (a + j) = C (c + j)) : sumS B a n = sumS C c n := by
  have lane : ∀ (x : Nat) (h : Int32), x ≤ 12 → foldS (stL B x) 16 (n / 16) a h = foldS (stL C x) 16 (n / 16) c h := by
    intro x h hx
    refine foldS_shift _ _ _ _ (fun i h2 hi => ?_)
    unfold stL
    rw [show a + 16 * i + x = a + (16 * i + x) from by omega, show c + 16 * i + x = c + (16 * i + x) from by omega, W4_shift e (by omega)]
  have lanes : lanesS B (n / 16) a 606290984 (-2048144777) 0 1640531535 = lanesS C (n / 16) c 606290984 (-2048144777) 0 1640531535 := by
    unfold lanesS
    rw [lane 0 _ (by decide), lane 4 _ (by decide), lane 8 _ (by decide), lane 12 _ (by decide)]
  have words : ∀ h, foldS (stW B) 4 (n % 16 / 4) (a + n / 16 * 16) h = foldS (stW C) 4 (n % 16 / 4) (c + n / 16 * 16) h := by
    intro h
    refine foldS_shift _ _ _ _ (fun i h2 hi => ?_)
    unfold stW
    rw [show a + n / 16 * 16 + 4 * i = a + (n / 16 * 16 + 4 * i) from by omega, show c + n / 16 * 16 + 4 * i = c + (n / 16 * 16 + 4 * i) from by omega, W4_shift e (by omega)]
  have bytes : ∀ h, foldS (stB B) 1 (n % 4) (a + n / 4 * 4) h = foldS (stB C) 1 (n % 4) (c + n / 4 * 4) h := by
    intro h
    refine foldS_shift _ _ _ _ (fun i h2 hi => ?_)
    unfold stB
    rw [show a + n / 4 * 4 + 1 * i = a + (n / 4 * 4 + i) from by omega, show c + n / 4 * 4 + 1 * i = c + (n / 4 * 4 + i) from by omega, e _ (by omega)]
  unfold sumS
  rw [words, bytes, lanes]
