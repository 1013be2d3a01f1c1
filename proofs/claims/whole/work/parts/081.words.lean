/-! Numbers of four and eight bytes, emitted: class and model. -/
theorem sr32_bv {x : Int32} {k : Nat} (hk : k < 32) : (x >>> (nI k &&& 31)).toBitVec = x.toBitVec.sshiftRight k := by
  show x.toBitVec.sshiftRight ((nI k &&& 31).toBitVec.smod 32).toNat = _
  have e : ∀ k, k < 32 → ((nI k &&& 31).toBitVec.smod 32).toNat = k := by decide +kernel
  rw [e k hk]
theorem lo8_sr {x : Int32} {k : Nat} (hk : k ≤ 24) : lo8 (x >>> (nI k &&& 31)) = vN x / 2 ^ k % 256 := by
  unfold lo8
  apply Nat.eq_of_testBit_eq
  intro i
  rw [show (256 : Nat) = 2 ^ 8 from rfl, Nat.testBit_mod_two_pow, Nat.testBit_mod_two_pow, Nat.testBit_div_two_pow]
  by_cases hi : i < 8
  · simp only [hi, decide_true, Bool.true_and]
    show (x >>> (nI k &&& 31)).toBitVec.getLsbD i = x.toBitVec.getLsbD (i + k)
    rw [sr32_bv (by omega), BitVec.getLsbD_sshiftRight]
    simp [show ¬ 32 ≤ i from by omega, show k + i < 32 from by omega, Nat.add_comm]
  · simp [hi]
theorem lo8_vN (x : Int32) : lo8 x = vN x % 256 := rfl
/-- four bytes of a number, the lowest first -/
def pushW (s : Sq) (w : Nat) : Sq := push (push (push (push s (w % 256)) (w / 2 ^ 8 % 256)) (w / 2 ^ 16 % 256)) (w / 2 ^ 24 % 256)
theorem pushW_1 (s : Sq) (w : Nat) : (pushW s w).1 = s.1 + 4 := rfl
theorem o_word {s : Sq} {n : Int32} {f : Nat → Int32} (h : Rw 8000 s.1 n f s.2) (x : Int32) : Out (pushW s (vN x)) (f_Row_addWord 8000 x n f) := by
  unfold f_Row_addWord pushW
  rw [j_Row_addWord_0]
  have o1 := o_add h x
  rw [lo8_vN] at o1
  refine o1.seq (by show s.1 + 1 ≤ s.1 + 1 + 1 + 1 + 1; omega) (fun f1 _ h1 => ?_)
  have o2 := o_add h1 (x >>> ((8 : Int32) &&& 31))
  rw [show lo8 (x >>> ((8 : Int32) &&& 31)) = vN x / 2 ^ 8 % 256 from lo8_sr (k := 8) (by decide)] at o2
  refine o2.seq (by show s.1 + 1 + 1 ≤ s.1 + 1 + 1 + 1 + 1; omega) (fun f2 _ h2 => ?_)
  have o3 := o_add h2 (x >>> ((16 : Int32) &&& 31))
  rw [show lo8 (x >>> ((16 : Int32) &&& 31)) = vN x / 2 ^ 16 % 256 from lo8_sr (k := 16) (by decide)] at o3
  refine o3.seq (by show s.1 + 1 + 1 + 1 ≤ s.1 + 1 + 1 + 1 + 1; omega) (fun f3 _ h3 => ?_)
  have o4 := o_add h3 (x >>> ((24 : Int32) &&& 31))
  rw [show lo8 (x >>> ((24 : Int32) &&& 31)) = vN x / 2 ^ 24 % 256 from lo8_sr (k := 24) (by decide)] at o4
  exact o4.one
theorem m_make {s : Sq} {n : Int32} {f : Nat → Int32} (h : Mp s n f) (hs : s.1 < 1000000) {v : Nat} (hv : v < 256) : ∃ f', f_Mo_make (nI v) n f = some (nI (s.1 + 1), f') ∧ Mp (push s v) (nI (s.1 + 1)) f' := by
  obtain ⟨rfl, h2⟩ := id h
  unfold f_Mo_make
  rw [j_Mo_make_0]
  by_cases c : s.1 < 9000
  · refine ⟨upd f s.1 (nI v), ?_, upd_push h hv⟩
    rw [if_neg (show ¬ (9000 : Int32) ≤ nI s.1 from nI_ge (b := 9000) c (by decide)), as_of (vp_in_nI c (by decide)), j_Mo_make_20, nI_clamp (by omega), nI_1]
  · refine ⟨f, ?_, rfl, fun j hj h9 => ?_⟩
    · rw [if_pos (show (9000 : Int32) ≤ nI s.1 from nI_le (a := 9000) (by omega) (by omega)), j_Mo_make_20, nI_1]
    · have hj : j < s.1 + 1 := hj
      show updB s.2 s.1 v j < 256 ∧ f j = nI (updB s.2 s.1 v j)
      unfold updB
      rw [if_neg (by omega)]
      exact h2 j (by omega) h9
/-- n bytes of a long from byte i on -/
def pushL (x : Int64) : Nat → Nat → Sq → Sq
  | 0, _, s => s
  | n + 1, i, s => pushL x n (i + 1) (push s (bo x i))
theorem pushL_0 (x : Int64) (i : Nat) (s : Sq) : pushL x 0 i s = s := rfl
theorem pushL_s (x : Int64) (n i : Nat) (s : Sq) : pushL x (n + 1) i s = pushL x n (i + 1) (push s (bo x i)) := rfl
theorem num_loop (x : Int64) {b : Nat} (hb : b ≤ 8) : ∀ (m fuel i : Nat) (s : Sq) (n : Int32) (f : Nat → Int32), i + m = b → m < fuel → s.1 + m < 1000000 → Mp s n f → ∃ f', loop3 (b_Mo_makeNumber_3 x (nI b)) fuel (nI i) n f = some (nI (pushL x m i s).1, f') ∧ Mp (pushL x m i s) (nI (pushL x m i s).1) f' := by
  intro m
  induction m with
  | zero =>
    intro fuel i s n f hi hf hs h
    obtain ⟨fuel, rfl⟩ : ∃ z, fuel = z + 1 := ⟨fuel - 1, by omega⟩
    rw [loop3_s, b_Mo_makeNumber_3, if_pos (nI_le (by omega) (by omega)), pushL_0]
    obtain ⟨rfl, -⟩ := id h
    exact ⟨f, rfl, h⟩
  | succ m ih =>
    intro fuel i s n f hi hf hs h
    obtain ⟨fuel, rfl⟩ : ∃ z, fuel = z + 1 := ⟨fuel - 1, by omega⟩
    obtain ⟨f1, e1, g1⟩ := m_make h (by omega) (v := bo x i) (bo_lt x i)
    rw [loop3_s, b_Mo_makeNumber_3, if_neg (nI_ge (by omega) (by omega)), m_bo x (by omega), bd2_of e1, nI_1, pushL_s]
    exact ih fuel (i + 1) _ _ f1 (by omega) (by omega) (by show s.1 + 1 + m < _; omega) g1
theorem pushL4 (x : Int64) (s : Sq) {w : Nat} (hw : wN x % 2 ^ 32 = w % 2 ^ 32) : pushL x 4 0 s = pushW s w := by
  rw [pushL_s, pushL_s, pushL_s, pushL_s, pushL_0, pushW]
  have b0 : bo x 0 = w % 256 := by unfold bo; rw [show (2 : Nat) ^ (8 * 0) = 1 from rfl, Nat.div_one]; omega
  have b1 : bo x (0 + 1) = w / 2 ^ 8 % 256 := by unfold bo; rw [show (2 : Nat) ^ (8 * (0 + 1)) = 2 ^ 8 from rfl]; omega
  have b2 : bo x (0 + 1 + 1) = w / 2 ^ 16 % 256 := by unfold bo; rw [show (2 : Nat) ^ (8 * (0 + 1 + 1)) = 2 ^ 16 from rfl]; omega
  have b3 : bo x (0 + 1 + 1 + 1) = w / 2 ^ 24 % 256 := by unfold bo; rw [show (2 : Nat) ^ (8 * (0 + 1 + 1 + 1)) = 2 ^ 24 from rfl]; omega
  rw [b0, b1, b2, b3]
theorem m_num4 {N : Nat} (hN : 20000 < N) (x : Int64) {w : Nat} (hw : wN x % 2 ^ 32 = w % 2 ^ 32) {s : Sq} {n : Int32} {f : Nat → Int32} (h : Mp s n f) (hs : s.1 < 900000) : ∃ f', f_Mo_makeNumber N x 4 n f = some (nI (pushW s w).1, f') ∧ Mp (pushW s w) (nI (pushW s w).1) f' := by
  have q := num_loop x (b := 4) (by decide) 4 N 0 s n f rfl (by omega) (by omega) h
  rw [pushL4 x s hw] at q
  exact q
theorem m_num8 {N : Nat} (hN : 20000 < N) {k : Nat} (hk : k < 2 ^ 31) {s : Sq} {n : Int32} {f : Nat → Int32} (h : Mp s n f) (hs : s.1 < 900000) : ∃ f', f_Mo_makeNumber N (lN k) 8 n f = some (nI (pushW (pushW s k) 0).1, f') ∧ Mp (pushW (pushW s k) 0) (nI (pushW (pushW s k) 0).1) f' := by
  have q := num_loop (lN k) (b := 8) (by decide) 8 N 0 s n f rfl (by omega) (by omega) h
  have e : pushL (lN k) 8 0 s = pushW (pushW s k) 0 := by
    have hw : wN (lN k) = k := wN_lN (by omega)
    have b0 : bo (lN k) 0 = k % 256 := by unfold bo; rw [hw, show (2 : Nat) ^ (8 * 0) = 1 from rfl, Nat.div_one]
    have b1 : bo (lN k) (0 + 1) = k / 2 ^ 8 % 256 := by unfold bo; rw [hw]
    have b2 : bo (lN k) (0 + 1 + 1) = k / 2 ^ 16 % 256 := by unfold bo; rw [hw]
    have b3 : bo (lN k) (0 + 1 + 1 + 1) = k / 2 ^ 24 % 256 := by unfold bo; rw [hw]
    have bz : ∀ i, 4 ≤ i → bo (lN k) i = 0 := by
      intro i hi
      unfold bo
      rw [hw, Nat.div_eq_of_lt]
      exact Nat.lt_of_lt_of_le (show k < 2 ^ (8 * 4) by omega) (Nat.pow_le_pow_right (by decide) (by omega))
    rw [pushL_s, pushL_s, pushL_s, pushL_s, pushL_s, pushL_s, pushL_s, pushL_s, pushL_0, b0, b1, b2, b3, bz _ (by decide), bz _ (by decide), bz _ (by decide), bz _ (by decide)]
    rfl
  rw [e] at q
  exact q
