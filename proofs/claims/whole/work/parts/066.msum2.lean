/-! The model's sum, whole. -/
theorem m_plus4 (x y z u : Int32) : (((uL x + uL y) + uL z) + uL u) &&& (4294967295 : Int64) = uL (((x + y) + z) + u) := by
  apply wN_inj
  have h1 := vN_lt x
  have h2 := vN_lt y
  have h3 := vN_lt z
  have h4 := vN_lt u
  rw [wN_mask, wN_add, wN_add, wN_add, wN_uL, wN_uL, wN_uL, wN_uL, wN_uL, vN_add, vN_add, vN_add]
  omega
theorem in4 {i : Nat} (h : i < 4) : vp_in (nI i) 4 := vp_in_nI h (by decide)
/-- what the lanes and the rest come to -/
def tailS (B : Nat → Nat) (n r j : Nat) (h : Int32) : Int32 := endS (foldS (stB B) 1 (r % 4) (j + r / 4 * 4) (foldS (stW B) 4 (r / 4) j (h + nI n)))
theorem m_210 {N aL e : Nat} {af : Nat → Int32} {B : Nat → Nat} (hN : 20000 < N) (h : Ma aL e af B) (wlf : Nat → Int64) {n r j : Nat} (hn : n ≤ 16000) (hr : j + r = e) (x : Int32) : j_Mo_sumOf_210 N aL (nI e) (uL (-1640531535)) (uL (-2048144777)) (uL (-1028477379)) (uL 668265263) (uL 374761393) (nI n) (nI j) (uL x) wlf af = some (uL (tailS B n r j x), wlf) := by
  obtain ⟨h1, h2, h3⟩ := id h
  rw [j_Mo_sumOf_210, nI_l (by omega), ← uL_nI (by omega), m_plus, mc_words hN h wlf (r := r % 4) (Nat.mod_lt _ (by decide)) (r / 4) N j _ (by omega) (by omega), show j + 4 * (r / 4) = j + r / 4 * 4 from by omega, tailS]
theorem vL_s {f : Nat → Int64} {k : Nat} {x : Int64} : vp_updL f k x k = x := pk_uLs
theorem mc_lanes {N aL e : Nat} {af : Nat → Int32} {B : Nat → Nat} (hN : 20000 < N) (h : Ma aL e af B) {n r : Nat} (hn : n ≤ 16000) (hr : r < 16) : ∀ (m fuel j : Nat) (a b c d : Int32) (wlf : Nat → Int64), j + 16 * m + r = e → m < fuel → wlf 0 = uL a → wlf 1 = uL b → wlf 2 = uL c → wlf 3 = uL d → ∃ wl', loop2 (b_Mo_sumOf_88 N aL (nI e) (uL (-1640531535)) (uL (-2048144777)) (uL (-1028477379)) (uL 668265263) (uL 374761393) (nI n) af) fuel (nI j) wlf = some (uL (tailS B n r (j + 16 * m) (lanesS B m j a b c d)), wl') := by
  obtain ⟨h1, h2, h3⟩ := id h
  obtain ⟨M, rfl⟩ : ∃ M, N = M + 5 := ⟨N - 5, by omega⟩
  intro m
  induction m with
  | zero =>
    intro fuel j a b c d wlf hj hf e0 e1 e2 e3
    obtain ⟨fuel, rfl⟩ : ∃ z, fuel = z + 1 := ⟨fuel - 1, by omega⟩
    refine ⟨wlf, ?_⟩
    rw [loop2_s, b_Mo_sumOf_88, pk_sub (by omega), if_pos (show nI (e - j) < 16 from nI_lt (b := 16) (by omega) (by decide))]
    rw [as_of (show vp_in 0 4 from in4 (i := 0) (by decide)), show (0 : Int32).toNatClampNeg = 0 from rfl, e0, show (1 : Int32).toNatClampNeg = 1 from rfl, e1, show (2 : Int32).toNatClampNeg = 2 from rfl, e2, show (3 : Int32).toNatClampNeg = 3 from rfl, e3]
    rw [bd1_of (show f_Mo_turned (uL a) 1 = some (uL (rotI a 1)) from m_turned a (k := 1) (by decide) (by decide)), as_of (show vp_in 1 4 from in4 (i := 1) (by decide)), bd1_of (show f_Mo_turned (uL b) 7 = some (uL (rotI b 7)) from m_turned b (k := 7) (by decide) (by decide)), as_of (show vp_in 2 4 from in4 (i := 2) (by decide)), bd1_of (show f_Mo_turned (uL c) 12 = some (uL (rotI c 12)) from m_turned c (k := 12) (by decide) (by decide)), as_of (show vp_in 3 4 from in4 (i := 3) (by decide)), bd1_of (show f_Mo_turned (uL d) 18 = some (uL (rotI d 18)) from m_turned d (k := 18) (by decide) (by decide)), m_plus4, m_210 hN h wlf hn (r := r) (by omega), lanesS, foldS_0, foldS_0, foldS_0, foldS_0, Nat.mul_zero, Nat.add_zero]
  | succ m ih =>
    intro fuel j a b c d wlf hj hf e0 e1 e2 e3
    obtain ⟨fuel, rfl⟩ : ∃ z, fuel = z + 1 := ⟨fuel - 1, by omega⟩
    rw [loop2_s, b_Mo_sumOf_88, pk_sub (by omega), if_neg (show ¬ nI (e - j) < 16 from nI_nlt (b := 16) (by omega) (by omega))]
    rw [show (0 : Int32) = nI 0 from rfl, show M + 5 = (M + 4) + 1 from rfl, loop3_s, lane_at (ρ := Unit) h _ _ (i := 0) (j := j) (by decide) (by omega) wlf e0]
    rw [show M + 4 = (M + 3) + 1 from rfl, loop3_s, lane_at (ρ := Unit) h _ _ (i := 0 + 1) (j := j + 4) (l := b) (by decide) (by omega) _ (by rw [pk_uLn (by decide)]; exact e1)]
    rw [show M + 3 = (M + 2) + 1 from rfl, loop3_s, lane_at (ρ := Unit) h _ _ (i := 0 + 1 + 1) (j := j + 4 + 4) (l := c) (by decide) (by omega) _ (by rw [pk_uLn (by decide), pk_uLn (by decide)]; exact e2)]
    rw [show M + 2 = (M + 1) + 1 from rfl, loop3_s, lane_at (ρ := Unit) h _ _ (i := 0 + 1 + 1 + 1) (j := j + 4 + 4 + 4) (l := d) (by decide) (by omega) _ (by rw [pk_uLn (by decide), pk_uLn (by decide), pk_uLn (by decide)]; exact e3)]
    rw [loop3_s, b_Mo_sumOf_100, if_pos (by decide)]
    obtain ⟨wl', e⟩ := ih fuel (j + 4 + 4 + 4 + 4) (laneI a (nI (W4 B j))) (laneI b (nI (W4 B (j + 4)))) (laneI c (nI (W4 B (j + 4 + 4)))) (laneI d (nI (W4 B (j + 4 + 4 + 4)))) (vp_updL (vp_updL (vp_updL (vp_updL wlf 0 (uL (laneI a (nI (W4 B j))))) (0 + 1) (uL (laneI b (nI (W4 B (j + 4)))))) (0 + 1 + 1) (uL (laneI c (nI (W4 B (j + 4 + 4)))))) (0 + 1 + 1 + 1) (uL (laneI d (nI (W4 B (j + 4 + 4 + 4)))))) (by omega) (by omega) (by rw [pk_uLn (by decide), pk_uLn (by decide), pk_uLn (by decide), pk_uLs]) (by rw [pk_uLn (by decide), pk_uLn (by decide)]; exact pk_uLs) (by rw [pk_uLn (by decide)]; exact pk_uLs) pk_uLs
    refine ⟨wl', e.trans ?_⟩
    rw [show j + 4 + 4 + 4 + 4 + 16 * m = j + 16 * (m + 1) from by omega, lanesS, lanesS, foldS_s, foldS_s, foldS_s, foldS_s, stL, stL, stL, stL, show W4 B (j + 0) = W4 B j from rfl]
theorem tail_sum (B : Nat → Nat) (a n : Nat) : sumS B a n = tailS B n (n % 16) (a + n / 16 * 16) (if n < 16 then 374761393 else lanesS B (n / 16) a 606290984 (-2048144777) 0 1640531535) := by
  unfold sumS tailS
  rw [show n % 16 % 4 = n % 4 from by omega, show a + n / 16 * 16 + n % 16 / 4 * 4 = a + n / 4 * 4 from by omega]
theorem m_c0 : (uL (-1640531535) + uL (-2048144777)) &&& (4294967295 : Int64) = uL 606290984 := by decide +kernel
theorem m_c2 : (0 : Int64) = uL 0 := by decide +kernel
theorem m_c3 : ((0 : Int64) - uL (-1640531535)) &&& (4294967295 : Int64) = uL 1640531535 := by decide +kernel
theorem m_sum {N aL e a : Nat} {af : Nat → Int32} {B : Nat → Nat} (hN : 20000 < N) (h : Ma aL e af B) (hae : a ≤ e) (wlf : Nat → Int64) : ∃ wl', f_Mo_sumOf N aL (nI a) (nI e) wlf af = some (uL (sumS B a (e - a)), wl') := by
  obtain ⟨h1, h2, h3⟩ := id h
  unfold f_Mo_sumOf
  rw [j_Mo_sumOf_0, pk_sub hae, cp1, cp2, cp3, cp4, cp5]
  by_cases c : e - a < 16
  · refine ⟨wlf, ?_⟩
    rw [if_pos (show nI (e - a) < 16 from nI_lt (b := 16) c (by decide)), m_210 hN h wlf (n := e - a) (r := e - a) (by omega) (by omega), tail_sum, if_pos c, Nat.mod_eq_of_lt c, show a + (e - a) / 16 * 16 = a from by omega]
  · rw [if_neg (show ¬ nI (e - a) < 16 from nI_nlt (b := 16) (by omega) (by omega)), as_of (show vp_in 0 4 from in4 (i := 0) (by decide)), as_of (show vp_in 1 4 from in4 (i := 1) (by decide)), as_of (show vp_in 2 4 from in4 (i := 2) (by decide)), as_of (show vp_in 3 4 from in4 (i := 3) (by decide))]
    rw [show (0 : Int32).toNatClampNeg = 0 from rfl, show (1 : Int32).toNatClampNeg = 1 from rfl, show (2 : Int32).toNatClampNeg = 2 from rfl, show (3 : Int32).toNatClampNeg = 3 from rfl]
    obtain ⟨wl', q⟩ := mc_lanes hN h (n := e - a) (r := (e - a) % 16) (by omega) (Nat.mod_lt _ (by decide)) ((e - a) / 16) N a 606290984 (-2048144777) 0 1640531535 (vp_updL (vp_updL (vp_updL (vp_updL wlf 0 ((uL (-1640531535) + uL (-2048144777)) &&& (4294967295 : Int64))) 1 (uL (-2048144777))) 2 (0 : Int64)) 3 (((0 : Int64) - uL (-1640531535)) &&& (4294967295 : Int64))) (by omega) (by omega) (by rw [pk_uLn (by decide), pk_uLn (by decide), pk_uLn (by decide), pk_uLs]; exact m_c0) (by rw [pk_uLn (by decide), pk_uLn (by decide), pk_uLs]) (by rw [pk_uLn (by decide), pk_uLs]; exact m_c2) (by rw [pk_uLs]; exact m_c3)
    refine ⟨wl', q.trans ?_⟩
    rw [tail_sum, if_neg c, show a + 16 * ((e - a) / 16) = a + (e - a) / 16 * 16 from by omega]
