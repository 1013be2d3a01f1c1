/-! The narrow sum: class and model. -/
def vN (x : Int32) : Nat := x.toBitVec.toNat
theorem vN_lt (x : Int32) : vN x < 2 ^ 32 := x.toBitVec.isLt
theorem vN_inj {x y : Int32} (h : vN x = vN y) : x = y := Int32.toBitVec_inj.mp (BitVec.eq_of_toNat_eq h)
theorem vN_nI (n : Nat) : vN (nI n) = n % 2 ^ 32 := by
  show (BitVec.ofNat 32 n).toNat = _
  rw [BitVec.toNat_ofNat]
theorem nI_vN (x : Int32) : nI (vN x) = x := vN_inj (by rw [vN_nI, Nat.mod_eq_of_lt (vN_lt x)])
theorem vN_or (x y : Int32) : vN (x ||| y) = vN x ||| vN y := by
  unfold vN
  rw [Int32.toBitVec_or, BitVec.toNat_or]
theorem vN_xor (x y : Int32) : vN (x ^^^ y) = vN x ^^^ vN y := by
  unfold vN
  rw [Int32.toBitVec_xor, BitVec.toNat_xor]
theorem vN_add (x y : Int32) : vN (x + y) = (vN x + vN y) % 2 ^ 32 := by
  unfold vN
  rw [Int32.toBitVec_add, BitVec.toNat_add]
theorem vN_mul (x y : Int32) : vN (x * y) = (vN x * vN y) % 2 ^ 32 := by
  unfold vN
  rw [Int32.toBitVec_mul, BitVec.toNat_mul]
theorem vN_us {x : Int32} {k : Nat} (hk : k < 32) : vN (us32 x (nI k)) = vN x / 2 ^ k := pk_ushr x (nI k) k (by revert k; decide +kernel)
theorem vN_sl {x : Int32} {k : Nat} (hk : k < 32) : vN (x <<< (nI k &&& 31)) = vN x * 2 ^ k % 2 ^ 32 := pk_shl x (nI k &&& 31) k (by revert k; decide +kernel)
theorem or_add {a b k : Nat} (h : a < 2 ^ k) : a ||| b * 2 ^ k = a + b * 2 ^ k := by
  rw [Nat.or_comm, Nat.mul_comm, Nat.add_comm]
  exact (Nat.two_pow_add_eq_or_of_lt h b).symm
/-- four bytes, the lowest first -/
def W4 (B : Nat → Nat) (j : Nat) : Nat := B j + B (j + 1) * 256 + B (j + 2) * 65536 + B (j + 3) * 16777216
theorem or4 {a b c d : Nat} (ha : a < 256) (hb : b < 256) (hc : c < 256) : ((a ||| b * 256) ||| c * 65536) ||| d * 16777216 = a + b * 256 + c * 65536 + d * 16777216 := by
  rw [show b * 256 = b * 2 ^ 8 from rfl, or_add (by omega), show c * 65536 = c * 2 ^ 16 from rfl, or_add (by omega), show d * 16777216 = d * 2 ^ 24 from rfl, or_add (by omega)]
theorem s_word {L k : Nat} {n : Int32} {f : Nat → Int32} {B : Nat → Nat} (h : Rw L k n f B) {j : Nat} (hj : j + 4 ≤ k) : f_Row_word L (nI j) n f = some (nI (W4 B j)) := by
  obtain ⟨rfl, h1, h2, h3⟩ := h
  unfold f_Row_word
  rw [j_Row_word_0, if_neg (nIp (by omega)), show nI k - (4 : Int32) = nI (k - 4) from pk_sub (by omega : 4 ≤ k), if_neg (nI_nlt (by omega) (by omega)), if_pos (show nI k ≤ Int32.ofNat L from nI_le h1 (by omega))]
  rw [show nI j + (1 : Int32) = nI (j + 1) from nI_add j 1, show nI j + (2 : Int32) = nI (j + 2) from nI_add j 2, show nI j + (3 : Int32) = nI (j + 3) from nI_add j 3]
  rw [as_of (vp_in_nI (by omega) (by omega)), as_of (vp_in_nI (by omega) (by omega)), as_of (vp_in_nI (by omega) (by omega)), as_of (vp_in_nI (by omega) (by omega))]
  rw [nI_clamp (by omega), nI_clamp (by omega), nI_clamp (by omega), nI_clamp (by omega)]
  obtain ⟨a0, b0⟩ := h3 j (by omega)
  obtain ⟨a1, b1⟩ := h3 (j + 1) (by omega)
  obtain ⟨a2, b2⟩ := h3 (j + 2) (by omega)
  obtain ⟨a3, b3⟩ := h3 (j + 3) (by omega)
  rw [b0, b1, b2, b3, sb_and a0, sb_and a1, sb_and a2, sb_and a3]
  congr 1
  apply vN_inj
  rw [vN_or, vN_or, vN_or, show (8 : Int32) = nI 8 from rfl, show (16 : Int32) = nI 16 from rfl, show (24 : Int32) = nI 24 from rfl, vN_sl (by decide), vN_sl (by decide), vN_sl (by decide), vN_nI, vN_nI, vN_nI, vN_nI, vN_nI]
  unfold W4
  have e : ∀ z, z < 256 → z % 2 ^ 32 = z := fun z hz => Nat.mod_eq_of_lt (by omega)
  rw [e _ a0, e _ a1, e _ a2, e _ a3]
  rw [show B (j + 1) * 2 ^ 8 % 2 ^ 32 = B (j + 1) * 256 from Nat.mod_eq_of_lt (by omega), show B (j + 2) * 2 ^ 16 % 2 ^ 32 = B (j + 2) * 65536 from Nat.mod_eq_of_lt (by omega), show B (j + 3) * 2 ^ 24 % 2 ^ 32 = B (j + 3) * 16777216 from Nat.mod_eq_of_lt (by omega), or4 a0 a1 a2, Nat.mod_eq_of_lt (by omega)]
def rotI (x k : Int32) : Int32 := (x <<< (k &&& 31)) ||| us32 x (32 - k)
def laneI (l w : Int32) : Int32 := rotI (l + w * (-2048144777)) 13 * (-1640531535)
theorem s_rot (x k : Int32) : f_Sum_rotated x k = some (rotI x k) := by
  unfold f_Sum_rotated
  rw [j_Sum_rotated_0, rotI]
theorem s_lane (l w : Int32) : f_Sum_lane l w = some (laneI l w) := by
  unfold f_Sum_lane
  rw [j_Sum_lane_0, bd1_of (s_rot _ _), laneI]
/-- m steps from j on, d places apart -/
def foldS (st : Int32 → Nat → Int32) (d : Nat) : Nat → Nat → Int32 → Int32
  | 0, _, h => h
  | m + 1, j, h => foldS st d m (j + d) (st h j)
theorem foldS_0 (st : Int32 → Nat → Int32) (d j : Nat) (h : Int32) : foldS st d 0 j h = h := rfl
theorem foldS_s (st : Int32 → Nat → Int32) (d m j : Nat) (h : Int32) : foldS st d (m + 1) j h = foldS st d m (j + d) (st h j) := rfl
def stL (B : Nat → Nat) (i : Nat) (l : Int32) (j : Nat) : Int32 := laneI l (nI (W4 B (j + i)))
def stW (B : Nat → Nat) (h : Int32) (j : Nat) : Int32 := rotI (h + nI (W4 B j) * (-1028477379)) 17 * 668265263
def stB (B : Nat → Nat) (h : Int32) (j : Nat) : Int32 := rotI (h + nI (B j) * 374761393) 11 * (-1640531535)
def lanesS (B : Nat → Nat) (m j : Nat) (a b c d : Int32) : Int32 := ((rotI (foldS (stL B 0) 16 m j a) 1 + rotI (foldS (stL B 4) 16 m j b) 7) + rotI (foldS (stL B 8) 16 m j c) 12) + rotI (foldS (stL B 12) 16 m j d) 18
def endS (h : Int32) : Int32 := ((((h ^^^ (us32 h 15)) * (-2048144777)) ^^^ (us32 ((h ^^^ (us32 h 15)) * (-2048144777)) 13)) * (-1028477379)) ^^^ (us32 ((((h ^^^ (us32 h 15)) * (-2048144777)) ^^^ (us32 ((h ^^^ (us32 h 15)) * (-2048144777)) 13)) * (-1028477379)) 16)
/-- the narrow sum of n bytes from a on -/
def sumS (B : Nat → Nat) (a n : Nat) : Int32 :=
  endS (foldS (stB B) 1 (n % 4) (a + n / 4 * 4) (foldS (stW B) 4 (n % 16 / 4) (a + n / 16 * 16) ((if n < 16 then 374761393 else lanesS B (n / 16) a 606290984 (-2048144777) 0 1640531535) + nI n)))
theorem loop5_s {α β γ δ ε ρ : Type} (b : (α → β → γ → δ → ε → Option ρ) → α → β → γ → δ → ε → Option ρ) (n : Nat) (x : α) (y : β) (z : γ) (u : δ) (v : ε) : loop5 b (n + 1) x y z u v = b (loop5 b n) x y z u v := rfl
theorem c_lanes {L k : Nat} {n : Int32} {f : Nat → Int32} {B : Nat → Nat} (h : Rw L k n f B) {e : Nat} (he : e ≤ k) : ∀ (m fuel j : Nat) (a b c d : Int32), j + 16 * m = e → m < fuel → loop5 (b_Sum_ofLanes_17 L (nI e) n f) fuel a b c d (nI j) = some (lanesS B m j a b c d) := by
  have hL := h.2.2.1
  have hk := h.2.1
  intro m
  induction m with
  | zero =>
    intro fuel j a b c d hj hf
    obtain ⟨fuel, rfl⟩ : ∃ z, fuel = z + 1 := ⟨fuel - 1, by omega⟩
    rw [loop5_s, b_Sum_ofLanes_17, if_pos (nI_le (by omega) (by omega)), bd1_of (s_rot _ _), bd1_of (s_rot _ _), bd1_of (s_rot _ _), bd1_of (s_rot _ _), lanesS, foldS_0, foldS_0, foldS_0, foldS_0]
  | succ m ih =>
    intro fuel j a b c d hj hf
    obtain ⟨fuel, rfl⟩ : ∃ z, fuel = z + 1 := ⟨fuel - 1, by omega⟩
    rw [loop5_s, b_Sum_ofLanes_17, if_neg (nI_ge (by omega) (by omega))]
    rw [bd1_of (s_word h (j := j) (by omega)), bd1_of (s_lane _ _), show nI j + (4 : Int32) = nI (j + 4) from nI_add j 4, bd1_of (s_word h (j := j + 4) (by omega)), bd1_of (s_lane _ _), show nI j + (8 : Int32) = nI (j + 8) from nI_add j 8, bd1_of (s_word h (j := j + 8) (by omega)), bd1_of (s_lane _ _), show nI j + (12 : Int32) = nI (j + 12) from nI_add j 12, bd1_of (s_word h (j := j + 12) (by omega)), bd1_of (s_lane _ _), show nI j + (16 : Int32) = nI (j + 16) from nI_add j 16]
    rw [ih fuel (j + 16) _ _ _ _ (by omega) (by omega), lanesS, lanesS, foldS_s, foldS_s, foldS_s, foldS_s, stL, stL, stL, stL, show W4 B (j + 0) = W4 B j from rfl]
theorem c_bytes {L k : Nat} {n : Int32} {f : Nat → Int32} {B : Nat → Nat} (h : Rw L k n f B) {e : Nat} (he : e ≤ k) : ∀ (m fuel j : Nat) (x : Int32), j + m = e → m < fuel → loop2 (b_Sum_of_77 L (nI e) n f) fuel (nI j) x = some (endS (foldS (stB B) 1 m j x)) := by
  have hL := h.2.2.1
  have hk := h.2.1
  intro m
  induction m with
  | zero =>
    intro fuel j x hj hf
    obtain ⟨fuel, rfl⟩ : ∃ z, fuel = z + 1 := ⟨fuel - 1, by omega⟩
    rw [loop2_s, b_Sum_of_77, if_pos (nI_le (by omega) (by omega)), foldS_0, endS]
  | succ m ih =>
    intro fuel j x hj hf
    obtain ⟨fuel, rfl⟩ : ∃ z, fuel = z + 1 := ⟨fuel - 1, by omega⟩
    rw [loop2_s, b_Sum_of_77, if_neg (nI_ge (by omega) (by omega)), bd1_of (s_get h (j := j) (by omega)), bd1_of (s_rot _ _), nI_1, ih fuel (j + 1) _ (by omega) (by omega), foldS_s, stB]
theorem c_words {N L k : Nat} {n : Int32} {f : Nat → Int32} {B : Nat → Nat} (hN : 20000 < N) (h : Rw L k n f B) {e : Nat} (he : e ≤ k) {r : Nat} (hr : r < 4) : ∀ (m fuel j : Nat) (x : Int32), j + 4 * m + r = e → m < fuel → loop2 (b_Sum_of_41 N L (nI e) n f) fuel (nI j) x = some (endS (foldS (stB B) 1 r (j + 4 * m) (foldS (stW B) 4 m j x))) := by
  have hL := h.2.2.1
  have hk := h.2.1
  intro m
  induction m with
  | zero =>
    intro fuel j x hj hf
    obtain ⟨fuel, rfl⟩ : ∃ z, fuel = z + 1 := ⟨fuel - 1, by omega⟩
    rw [loop2_s, b_Sum_of_41, pk_sub (by omega), if_pos (show nI (e - j) < 4 from nI_lt (b := 4) (by omega) (by decide))]
    rw [c_bytes h he r N j x (by omega) (by omega), foldS_0, Nat.mul_zero, Nat.add_zero]
  | succ m ih =>
    intro fuel j x hj hf
    obtain ⟨fuel, rfl⟩ : ∃ z, fuel = z + 1 := ⟨fuel - 1, by omega⟩
    rw [loop2_s, b_Sum_of_41, pk_sub (by omega), if_neg (show ¬ nI (e - j) < 4 from nI_nlt (b := 4) (by omega) (by omega)), bd1_of (s_word h (j := j) (by omega)), bd1_of (s_rot _ _), show nI j + (4 : Int32) = nI (j + 4) from nI_add j 4]
    rw [ih fuel (j + 4) _ (by omega) (by omega), show j + 4 + 4 * m = j + 4 * (m + 1) from by omega, foldS_s (stW B), stW]
theorem s_sum {N L k : Nat} {n : Int32} {f : Nat → Int32} {B : Nat → Nat} (hN : 20000 < N) (h : Rw L k n f B) {a e : Nat} (hae : a ≤ e) (he : e ≤ k) : f_Sum_of N L (nI a) (nI e) n f = some (sumS B a (e - a)) := by
  have hL := h.2.2.1
  have hk := h.2.1
  unfold f_Sum_of
  rw [j_Sum_of_0, pk_sub hae, show nI (e - a) / (16 : Int32) = nI ((e - a) / 16) from pk_div (d := 16) (by omega) (by decide) (by decide), show nI ((e - a) / 16) * (16 : Int32) = nI ((e - a) / 16 * 16) from pk_mul _ 16, nI_add]
  have hm : (e - a) / 16 * 16 ≤ e - a := Nat.div_mul_le_self _ _
  have key : ∀ t : Int32, j_Sum_of_33 N L (nI e) (nI (e - a)) (nI (a + (e - a) / 16 * 16)) t n f = some (endS (foldS (stB B) 1 ((e - a) % 4) (a + (e - a) / 4 * 4) (foldS (stW B) 4 ((e - a) % 16 / 4) (a + (e - a) / 16 * 16) (t + nI (e - a))))) := by
    intro t
    rw [j_Sum_of_33, c_words hN h he (r := (e - a) % 4) (Nat.mod_lt _ (by decide)) ((e - a) % 16 / 4) N (a + (e - a) / 16 * 16) _ (by omega) (by omega), show a + (e - a) / 16 * 16 + 4 * ((e - a) % 16 / 4) = a + (e - a) / 4 * 4 from by omega]
  unfold sumS
  by_cases c : e - a < 16
  · rw [if_pos (show nI (e - a) < 16 from nI_lt (b := 16) c (by decide)), key, if_pos c]
  · rw [if_neg (show ¬ nI (e - a) < 16 from nI_nlt (b := 16) (by omega) (by omega)), if_neg c]
    rw [bd1_of (x1 := lanesS B ((e - a) / 16) a 606290984 (-2048144777) 0 1640531535) (by unfold f_Sum_ofLanes; rw [j_Sum_ofLanes_0]; exact c_lanes h (by omega) ((e - a) / 16) N a _ _ _ _ (by omega) (by omega)), key]
