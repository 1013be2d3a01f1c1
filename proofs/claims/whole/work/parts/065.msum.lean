/-! The narrow sum of the model. -/
def uL (x : Int32) : Int64 := lN (vN x)
theorem wN_uL (x : Int32) : wN (uL x) = vN x := wN_lN (by have := vN_lt x; omega)
theorem m64 (a : Nat) : a % 2 ^ 64 % 2 ^ 32 = a % 2 ^ 32 := by omega
theorem m_times (x q : Int32) : f_Mo_times (uL x) (uL q) = some (uL (x * q)) := by
  unfold f_Mo_times
  rw [j_Mo_times_0]
  congr 1
  apply wN_inj
  rw [wN_mask, wN_mul, wN_uL, wN_uL, wN_uL, vN_mul, m64]
theorem m_plus (x y : Int32) : (uL x + uL y) &&& (4294967295 : Int64) = uL (x + y) := by
  apply wN_inj
  rw [wN_mask, wN_add, wN_uL, wN_uL, wN_uL, vN_add, m64]
theorem m_turned (x : Int32) {k : Nat} (h1 : 1 ≤ k) (h2 : k < 32) : f_Mo_turned (uL x) (nI k) = some (uL (rotI x (nI k))) := by
  unfold f_Mo_turned
  rw [j_Mo_turned_0]
  congr 1
  apply wN_inj
  have hx := vN_lt x
  rw [wN_mask, wN_or, wN_sl (by omega), show (32 : Int32) - nI k = nI (32 - k) from pk_sub (a := 32) (by omega), wN_sr (by omega) (by rw [wN_uL]; omega), wN_uL, wN_uL, rotI, show (32 : Int32) - nI k = nI (32 - k) from pk_sub (a := 32) (by omega), vN_or, vN_sl h2, vN_us (by omega), Nat.or_mod_two_pow, m64]
  congr 1
  exact Nat.mod_eq_of_lt (Nat.lt_of_le_of_lt (Nat.div_le_self _ _) hx)
theorem m_xs (x : Int32) {k : Nat} (h2 : k < 32) : uL x ^^^ sr64 (uL x) (nI k) = uL (x ^^^ us32 x (nI k)) := by
  apply wN_inj
  have hx := vN_lt x
  rw [wN_xor, wN_sr (by omega) (by rw [wN_uL]; omega), wN_uL, wN_uL, vN_xor, vN_us h2]
/-- an array of the model that holds bytes, up to e -/
def Ma (aL e : Nat) (af : Nat → Int32) (B : Nat → Nat) : Prop := e ≤ aL ∧ aL ≤ 16000 ∧ ∀ j, j < e → B j < 256 ∧ af j = nI (B j)
theorem uL_nI {n : Nat} (h : n < 2 ^ 32) : uL (nI n) = lN n := by
  unfold uL
  rw [vN_nI, Nat.mod_eq_of_lt h]
theorem m_word {aL e : Nat} {af : Nat → Int32} {B : Nat → Nat} (h : Ma aL e af B) {j : Nat} (hj : j + 4 ≤ e) : f_Mo_word aL (nI j) af = some (uL (nI (W4 B j))) := by
  obtain ⟨h1, h2, h3⟩ := h
  obtain ⟨a0, b0⟩ := h3 j (by omega)
  obtain ⟨a1, b1⟩ := h3 (j + 1) (by omega)
  obtain ⟨a2, b2⟩ := h3 (j + 2) (by omega)
  obtain ⟨a3, b3⟩ := h3 (j + 3) (by omega)
  have hW : W4 B j < 2 ^ 32 := by unfold W4; omega
  unfold f_Mo_word
  rw [j_Mo_word_0]
  rw [show nI j + (1 : Int32) = nI (j + 1) from nI_add j 1, show nI j + (2 : Int32) = nI (j + 2) from nI_add j 2, show nI j + (3 : Int32) = nI (j + 3) from nI_add j 3]
  rw [as_of (vp_in_nI (by omega) (by omega)), as_of (vp_in_nI (by omega) (by omega)), as_of (vp_in_nI (by omega) (by omega)), as_of (vp_in_nI (by omega) (by omega))]
  rw [nI_clamp (by omega), nI_clamp (by omega), nI_clamp (by omega), nI_clamp (by omega), b0, b1, b2, b3, nI_l (by omega), nI_l (by omega), nI_l (by omega), nI_l (by omega), uL_nI hW]
  congr 1
  apply wN_inj
  rw [wN_or, wN_or, wN_or, show (8 : Int32) = nI 8 from rfl, show (16 : Int32) = nI 16 from rfl, show (24 : Int32) = nI 24 from rfl, wN_sl (by decide), wN_sl (by decide), wN_sl (by decide), wN_lN (by omega), wN_lN (by omega), wN_lN (by omega), wN_lN (by omega), wN_lN (by omega)]
  rw [show B (j + 1) * 2 ^ 8 % 2 ^ 64 = B (j + 1) * 256 from Nat.mod_eq_of_lt (by omega), show B (j + 2) * 2 ^ 16 % 2 ^ 64 = B (j + 2) * 65536 from Nat.mod_eq_of_lt (by omega), show B (j + 3) * 2 ^ 24 % 2 ^ 64 = B (j + 3) * 16777216 from Nat.mod_eq_of_lt (by omega), or4 a0 a1 a2, W4]
theorem cp1 : (2654435761 : Int64) = uL (-1640531535) := by decide +kernel
theorem cp2 : (2246822519 : Int64) = uL (-2048144777) := by decide +kernel
theorem cp3 : (3266489917 : Int64) = uL (-1028477379) := by decide +kernel
theorem cp4 : (668265263 : Int64) = uL 668265263 := by decide +kernel
theorem cp5 : (374761393 : Int64) = uL 374761393 := by decide +kernel
theorem mc_bytes {aL e : Nat} {af : Nat → Int32} {B : Nat → Nat} (h : Ma aL e af B) (wlf : Nat → Int64) : ∀ (m fuel j : Nat) (x : Int32), j + m = e → m < fuel → loop2 (b_Mo_sumOf_266 aL (nI e) (uL (-1640531535)) (uL (-2048144777)) (uL (-1028477379)) (uL 374761393) wlf af) fuel (nI j) (uL x) = some (uL (endS (foldS (stB B) 1 m j x)), wlf) := by
  obtain ⟨h1, h2, h3⟩ := h
  intro m
  induction m with
  | zero =>
    intro fuel j x hj hf
    obtain ⟨fuel, rfl⟩ : ∃ z, fuel = z + 1 := ⟨fuel - 1, by omega⟩
    rw [loop2_s, b_Mo_sumOf_266, if_pos (nI_le (by omega) (by omega)), show (15 : Int32) = nI 15 from rfl, m_xs _ (by decide), bd1_of (m_times _ _), show (13 : Int32) = nI 13 from rfl, m_xs _ (by decide), bd1_of (m_times _ _), show (16 : Int32) = nI 16 from rfl, m_xs _ (by decide), foldS_0, endS]
    rfl
  | succ m ih =>
    intro fuel j x hj hf
    obtain ⟨fuel, rfl⟩ : ∃ z, fuel = z + 1 := ⟨fuel - 1, by omega⟩
    obtain ⟨a0, b0⟩ := h3 j (by omega)
    rw [loop2_s, b_Mo_sumOf_266, if_neg (nI_ge (by omega) (by omega)), as_of (vp_in_nI (by omega) (by omega)), nI_clamp (by omega), b0, nI_l (by omega), ← uL_nI (by omega), bd1_of (m_times _ _), m_plus, show (11 : Int32) = nI 11 from rfl, bd1_of (m_turned _ (by decide) (by decide)), bd1_of (m_times _ _), nI_1, ih fuel (j + 1) _ (by omega) (by omega), foldS_s, stB]
    rfl
theorem mc_words {N aL e : Nat} {af : Nat → Int32} {B : Nat → Nat} (hN : 20000 < N) (h : Ma aL e af B) (wlf : Nat → Int64) {r : Nat} (hr : r < 4) : ∀ (m fuel j : Nat) (x : Int32), j + 4 * m + r = e → m < fuel → loop2 (b_Mo_sumOf_222 N aL (nI e) (uL (-1640531535)) (uL (-2048144777)) (uL (-1028477379)) (uL 668265263) (uL 374761393) wlf af) fuel (nI j) (uL x) = some (uL (endS (foldS (stB B) 1 r (j + 4 * m) (foldS (stW B) 4 m j x))), wlf) := by
  obtain ⟨h1, h2, h3⟩ := id h
  intro m
  induction m with
  | zero =>
    intro fuel j x hj hf
    obtain ⟨fuel, rfl⟩ : ∃ z, fuel = z + 1 := ⟨fuel - 1, by omega⟩
    rw [loop2_s, b_Mo_sumOf_222, pk_sub (by omega), if_pos (show nI (e - j) < 4 from nI_lt (b := 4) (by omega) (by decide)), mc_bytes h wlf r N j x (by omega) (by omega), foldS_0, Nat.mul_zero, Nat.add_zero]
  | succ m ih =>
    intro fuel j x hj hf
    obtain ⟨fuel, rfl⟩ : ∃ z, fuel = z + 1 := ⟨fuel - 1, by omega⟩
    rw [loop2_s, b_Mo_sumOf_222, pk_sub (by omega), if_neg (show ¬ nI (e - j) < 4 from nI_nlt (b := 4) (by omega) (by omega)), bd1_of (m_word h (j := j) (by omega)), bd1_of (m_times _ _), m_plus, show (17 : Int32) = nI 17 from rfl, bd1_of (m_turned _ (by decide) (by decide)), bd1_of (m_times _ _), show nI j + (4 : Int32) = nI (j + 4) from nI_add j 4]
    rw [ih fuel (j + 4) _ (by omega) (by omega), show j + 4 + 4 * m = j + 4 * (m + 1) from by omega, foldS_s (stW B), stW]
    rfl
/-- one lane's step in the model -/
theorem m_lane (l w : Int32) : bd1 (f_Mo_times (uL w) (uL (-2048144777))) (fun r => bd1 (f_Mo_turned ((uL l + r) &&& (4294967295 : Int64)) (13 : Int32)) (fun r2 => f_Mo_times r2 (uL (-1640531535)))) = some (uL (laneI l w)) := by
  rw [bd1_of (m_times _ _), m_plus, show (13 : Int32) = nI 13 from rfl, bd1_of (m_turned _ (by decide) (by decide)), m_times, laneI]
  rfl
theorem lane_at {aL e : Nat} {af : Nat → Int32} {B : Nat → Nat} (h : Ma aL e af B) {ρ : Type} (kh100 : Int32 → Int32 → (Nat → Int64) → Option (Int64 × (Nat → Int64))) (kh88 : Int32 → (Nat → Int64) → Option (Int64 × (Nat → Int64))) {i j : Nat} (hi : i < 4) (hj : j + 4 ≤ e) (wlf : Nat → Int64) {l : Int32} (hl : wlf i = uL l) : b_Mo_sumOf_100 aL (uL (-1640531535)) (uL (-2048144777)) af kh88 kh100 (nI j) (nI i) wlf = kh100 (nI (j + 4)) (nI (i + 1)) (vp_updL wlf i (uL (laneI l (nI (W4 B j))))) := by
  rw [b_Mo_sumOf_100, if_neg (show ¬ 4 ≤ nI i from nI_ge (b := 4) hi (by decide)), as_of (vp_in_nI hi (by decide)), bd1_of (m_word h hj), bd1_of (m_times _ _), nI_clamp (by omega), hl, m_plus, show (13 : Int32) = nI 13 from rfl, bd1_of (m_turned _ (by decide) (by decide)), bd1_of (m_times _ _), as_of (vp_in_nI hi (by decide)), show nI j + (4 : Int32) = nI (j + 4) from nI_add j 4, nI_1, laneI]
  rfl
