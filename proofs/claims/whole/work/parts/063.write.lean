/-! write, again: class and model. -/
theorem ofR {x : Int32} {a b : Nat} (hb : b < 2 ^ 31) (hab : a ≤ b) (h1 : ¬ x < nI a) (h2 : ¬ nI b < x) : ∃ n : Nat, a ≤ n ∧ n ≤ b ∧ x = nI n := by
  rw [Int32.lt_iff_toInt_lt, nI_toInt (by omega)] at h1
  rw [Int32.lt_iff_toInt_lt, nI_toInt (by omega)] at h2
  refine ⟨x.toInt.toNat, by omega, by omega, Int32.toInt_inj.mp ?_⟩
  rw [nI_toInt (by omega)]
  omega
theorem s_room {L k m : Nat} {n : Int32} {f : Nat → Int32} {B : Nat → Nat} (h : Rw L k n f B) (hm : m < 2 ^ 62) : f_Row_hasRoomFor L (lN m) n = some (if k + m ≤ L then 1 else 0) := by
  obtain ⟨rfl, h1, h2, h3⟩ := h
  unfold f_Row_hasRoomFor j_Row_hasRoomFor_0
  rw [show Int32.ofNat L = nI L from rfl, pk_sub h1, nI_l (by omega)]
  by_cases e : k + m ≤ L
  · rw [if_neg (by rw [lg_cmp_gt, pk_lLT (by omega) (by omega)]; omega), if_pos e]
  · rw [if_pos (by rw [lg_cmp_gt, pk_lLT (by omega) (by omega)]; omega), if_neg e]
def wrB (B : Nat → Nat) (k m : Nat) (x : Int64) : Nat → Nat := fun j => if j < k then B j else bo x (m - 1 - (j - k))
theorem w_loop (x : Int64) : ∀ (m fuel k : Nat) (f : Nat → Int32) (B : Nat → Nat), m ≤ 8 → m < fuel → Rw 8000 k (nI k) f B → k + m ≤ 8000 → ∃ f', loop3 (b_T_write_30 x) fuel (nI m - 1) (nI k) f = some (1, nI (k + m), f') ∧ Rw 8000 (k + m) (nI (k + m)) f' (wrB B k m x) := by
  intro m
  induction m with
  | zero =>
    intro fuel k f B _ hf h hk
    obtain ⟨fuel, rfl⟩ : ∃ z, fuel = z + 1 := ⟨fuel - 1, by omega⟩
    refine ⟨f, ?_, h.congr (fun j hj => by unfold wrB; rw [if_pos hj])⟩
    rw [loop3_s]
    rw [b_T_write_30]
    rw [if_pos (by decide)]
    rfl
  | succ m ih =>
    intro fuel k f B hm hf h hk
    obtain ⟨fuel, rfl⟩ : ∃ z, fuel = z + 1 := ⟨fuel - 1, by omega⟩
    obtain ⟨e1, h1⟩ := s_add1 (us64 x ((8 : Int32) * nI m)).toInt32 h (by omega)
    rw [c_bo x (by omega)] at e1 h1
    obtain ⟨f', e2, h2⟩ := ih fuel (k + 1) _ _ (by omega) (by omega) h1 (by omega)
    refine ⟨f', ?_, ?_⟩
    · rw [loop3_s]
      rw [b_T_write_30]
      rw [nI_pred, if_neg (nIp (by omega)), bd3_of e1]
      rw [show nI m + (-1 : Int32) = nI m - 1 from (Int32.sub_eq_add_neg _ _).symm, e2, show k + 1 + m = k + (m + 1) from by omega]
    · rw [show k + 1 + m = k + (m + 1) from by omega] at h2
      refine h2.congr (fun j hj => ?_)
      unfold wrB updB
      by_cases e : j < k
      · rw [if_pos (by omega), if_neg (by omega), if_pos e]
      · by_cases e3 : j = k
        · subst e3
          rw [if_pos (by omega), if_pos rfl, if_neg (by omega)]
          congr 1
          omega
        · rw [if_neg (by omega), if_neg e]
          congr 1
          omega
theorem t_write {N k : Nat} {gn : Int32} {gf : Nat → Int32} {B : Nat → Nat} (hN : 20000 < N) (h : Rw 8000 k gn gf B) (x : Int64) {m : Nat} (h1 : 1 ≤ m) (h8 : m ≤ 8) (hk : k + m ≤ 8000) : ∃ f', f_T_write N x (nI m) gn gf = some (1, nI (k + m), f') ∧ Rw 8000 (k + m) (nI (k + m)) f' (wrB B k m x) := by
  obtain ⟨rfl, -⟩ := id h
  obtain ⟨f', e, h2⟩ := w_loop x m N k gf B h8 (by omega) h hk
  refine ⟨f', ?_, h2⟩
  unfold f_T_write j_T_write_0
  rw [if_neg (show ¬ nI m < 1 from nI_nlt h1 (by omega)), if_neg (show ¬ 8 < nI m from nI_nlt (a := 8) h8 (by decide)), nI_l (by omega), bd1_of (s_room h (by omega)), if_pos hk, if_neg (by decide)]
  exact e
theorem t_writeNo {N k : Nat} {gn : Int32} {gf : Nat → Int32} {B : Nat → Nat} (h : Rw 8000 k gn gf B) (x : Int64) {y : Int32} (hy : y < 1 ∨ 8 < y ∨ ∃ m : Nat, m ≤ 8 ∧ y = nI m ∧ 8000 < k + m) : f_T_write N x y gn gf = some (0, gn, gf) := by
  unfold f_T_write j_T_write_0
  by_cases a : y < 1
  · rw [if_pos a]
  · rw [if_neg a]
    by_cases b : 8 < y
    · rw [if_pos b]
    · rw [if_neg b]
      obtain ⟨m, hm, rfl, hk⟩ := (hy.resolve_left a).resolve_left b
      rw [nI_l (by omega), bd1_of (s_room h (by omega)), if_neg (show ¬ k + m ≤ 8000 from by omega), if_pos rfl]
theorem mw_loop (x : Int64) {n k : Nat} (hn : n ≤ 8) (hk : k + n ≤ 8000) (B : Nat → Nat) : ∀ (fuel i : Nat) (f : Nat → Int32), i ≤ n → n - i < fuel → (∀ j, j < k + i → wrB B k n x j < 256 ∧ f j = nI (wrB B k n x j)) → ∃ f', loop3 (b_Mo_write_28 x (nI n)) fuel (nI i) (nI (k + i)) f = some (1, nI (k + n), f') ∧ Mw (k + n) (nI (k + n)) f' (wrB B k n x) := by
  intro fuel
  induction fuel with
  | zero => intro i f h1 h2; omega
  | succ fuel ih =>
    intro i f hi hf h
    rw [loop3_s]
    rw [b_Mo_write_28]
    by_cases e : i = n
    · subst e
      rw [if_pos (nI_le (Nat.le_refl _) (by omega))]
      exact ⟨f, rfl, rfl, hk, h⟩
    · rw [if_neg (nI_ge (by omega) (by omega)), as_of (vp_in_nI (by omega) (by omega)), nI_clamp (by omega), show nI n - (1 : Int32) = nI (n - 1) from pk_sub (by omega : 1 ≤ n), pk_sub (by omega), m_bo x (by omega), nI_1, show nI (k + i) + (1 : Int32) = nI (k + (i + 1)) from nI_1 _]
      refine ih (i + 1) _ (by omega) (by omega) (fun j hj => ?_)
      unfold upd
      by_cases e2 : j = k + i
      · subst e2
        rw [if_pos rfl]
        unfold wrB
        rw [if_neg (by omega)]
        exact ⟨bo_lt _ _, by congr 2; omega⟩
      · rw [if_neg e2]
        exact h j (by omega)
theorem m_write {N k : Nat} {win : Int32} {wif : Nat → Int32} {B : Nat → Nat} (hN : 20000 < N) (h : Mw k win wif B) (x : Int64) {m : Nat} (h1 : 1 ≤ m) (h8 : m ≤ 8) (hk : k + m ≤ 8000) : ∃ f', f_Mo_write N x (nI m) win wif = some (1, nI (k + m), f') ∧ Mw (k + m) (nI (k + m)) f' (wrB B k m x) := by
  obtain ⟨rfl, h2, h3⟩ := h
  obtain ⟨f', e, h4⟩ := mw_loop x h8 hk B N 0 wif (Nat.zero_le _) (by omega) (fun j hj => by unfold wrB; rw [if_pos (by omega)]; exact h3 j (by omega))
  refine ⟨f', ?_, h4⟩
  unfold f_Mo_write j_Mo_write_0
  rw [if_neg (show ¬ nI m < 1 from nI_nlt h1 (by omega)), if_neg (show ¬ 8 < nI m from nI_nlt (a := 8) h8 (by decide)), nI_add, if_pos (show nI (k + m) ≤ 8000 from nI_le (b := 8000) hk (by decide))]
  exact e
theorem m_writeNo {N k : Nat} {win : Int32} {wif : Nat → Int32} {B : Nat → Nat} (h : Mw k win wif B) (x : Int64) {y : Int32} (hy : y < 1 ∨ 8 < y ∨ ∃ m : Nat, m ≤ 8 ∧ y = nI m ∧ 8000 < k + m) : f_Mo_write N x y win wif = some (0, win, wif) := by
  obtain ⟨rfl, h2, h3⟩ := h
  unfold f_Mo_write j_Mo_write_0
  by_cases a : y < 1
  · rw [if_pos a]
  · rw [if_neg a]
    by_cases b : 8 < y
    · rw [if_pos b]
    · rw [if_neg b]
      obtain ⟨m, hm, rfl, hk⟩ := (hy.resolve_left a).resolve_left b
      rw [nI_add, if_neg (show ¬ nI (k + m) ≤ 8000 from nI_ge hk (by omega))]
/-- the last m of k bytes, again and again -/
def perB (B : Nat → Nat) (k m : Nat) : Nat → Nat := fun j => if j < k then B j else B (k - m + (j - k) % m)
theorem per_step {B : Nat → Nat} {k m j : Nat} (h1 : 1 ≤ m) (h2 : m ≤ k) (h3 : k ≤ j) : perB B k m j = perB B k m (j - m) := by
  unfold perB
  rw [if_neg (by omega)]
  by_cases e : j - m < k
  · rw [if_pos e, Nat.mod_eq_of_lt (by omega)]
    congr 1
    omega
  · rw [if_neg e]
    congr 2
    rw [show j - k = (j - m - k) + m from by omega, Nat.add_mod_right]
theorem a_loop {k m n : Nat} {B : Nat → Nat} (h1 : 1 ≤ m) (h2 : m ≤ k) (hk : k + m * n ≤ 8000) : ∀ (fuel i : Nat) (f : Nat → Int32), i ≤ n → n - i < fuel → Rw 8000 (k + m * i) (nI (k + m * i)) f (perB B k m) → ∃ f', loop3 (b_T_again_39 (nI m) (nI n)) fuel (nI i) (nI (k + m * i)) f = some (1, nI (k + m * n), f') ∧ Rw 8000 (k + m * n) (nI (k + m * n)) f' (perB B k m) := by
  have hn : n ≤ 8000 := by
    have : n ≤ m * n := Nat.le_mul_of_pos_left n h1
    omega
  intro fuel
  induction fuel with
  | zero => intro i f a b; omega
  | succ fuel ih =>
    intro i f hi hf h
    rw [loop3_s]
    rw [b_T_again_39]
    by_cases e : i = n
    · subst e
      rw [if_pos (nI_le (Nat.le_refl _) (by omega))]
      exact ⟨f, rfl, h⟩
    · have hmi : m * (i + 1) ≤ m * n := Nat.mul_le_mul_left m (by omega)
      have hms : m * (i + 1) = m * i + m := Nat.mul_succ m i
      obtain ⟨f1, e1, g1⟩ := s_addFrom_s h (a := k + m * i - m) (b := k + m * i) (by omega) (Nat.le_refl _) (by omega)
      rw [show k + m * i + (k + m * i - (k + m * i - m)) = k + m * (i + 1) from by omega] at e1 g1
      rw [if_neg (nI_ge (by omega) (by omega))]
      unfold f_Row_count j_Row_count_0
      rw [bd1_of rfl, bd1_of rfl, pk_sub (by omega), bd3_of e1, nI_1]
      refine ih (i + 1) f1 (by omega) (by omega) (g1.congr (fun j hj => ?_))
      unfold catB
      by_cases c : j < k + m * i
      · rw [if_pos c]
      · rw [if_neg c, per_step h1 h2 (by omega : k ≤ j)]
        congr 1
        omega
theorem t_again {N k m n : Nat} {gn : Int32} {gf : Nat → Int32} {B : Nat → Nat} (hN : 20000 < N) (h : Rw 8000 k gn gf B) (h1 : 1 ≤ m) (h2 : m ≤ k) (hn : n < 2 ^ 31) (hk : k + m * n ≤ 8000) : ∃ f', f_T_again N (nI m) (nI n) gn gf = some (1, nI (k + m * n), f') ∧ Rw 8000 (k + m * n) (nI (k + m * n)) f' (perB B k m) := by
  have hn2 : n ≤ 8000 := by
    have : n ≤ m * n := Nat.le_mul_of_pos_left n h1
    omega
  obtain ⟨rfl, hk8, -⟩ := id h
  obtain ⟨f', e, h3⟩ := a_loop h1 h2 hk N 0 gf (Nat.zero_le _) (by omega) (h.congr (fun j hj => by unfold perB; rw [if_pos (by omega)]))
  refine ⟨f', ?_, h3⟩
  unfold f_T_again j_T_again_0 f_Row_count j_Row_count_0
  rw [if_neg (show ¬ nI m < 1 from nI_nlt h1 (by omega)), bd1_of rfl, if_neg (nI_nlt h2 (by omega)), if_neg (nI_pos (by omega)), nI_l (by omega), nI_l (by omega), lN_mul, bd1_of (s_room h (by omega)), if_pos hk, if_neg (by decide)]
  exact e
/-- what again refuses -/
def againNo (k : Nat) (x y : Int32) : Prop := x < 1 ∨ nI k < x ∨ y < 0 ∨ ∃ m n : Nat, m ≤ 8000 ∧ n < 2 ^ 31 ∧ x = nI m ∧ y = nI n ∧ 8000 < k + m * n
theorem t_againNo {N k : Nat} {gn : Int32} {gf : Nat → Int32} {B : Nat → Nat} (h : Rw 8000 k gn gf B) {x y : Int32} (hy : againNo k x y) : f_T_again N x y gn gf = some (0, gn, gf) := by
  obtain ⟨rfl, -⟩ := id h
  unfold f_T_again j_T_again_0 f_Row_count j_Row_count_0
  by_cases a : x < 1
  · rw [if_pos a]
  · rw [if_neg a, bd1_of rfl]
    by_cases b : nI k < x
    · rw [if_pos b]
    · rw [if_neg b]
      by_cases d : y < 0
      · rw [if_pos d]
      · obtain ⟨m, n, hm, hn, rfl, rfl, hk⟩ := ((hy.resolve_left a).resolve_left b).resolve_left d
        have : m * n < 2 ^ 62 := Nat.lt_of_le_of_lt (Nat.mul_le_mul hm (Nat.le_of_lt hn)) (by decide)
        rw [if_neg d, nI_l (by omega), nI_l (by omega), lN_mul, bd1_of (s_room h this), if_neg (show ¬ k + m * n ≤ 8000 from by omega), if_pos rfl]
theorem ma_loop {k m n : Nat} {B : Nat → Nat} (h1 : 1 ≤ m) (h2 : m ≤ k) (hk : k + m * n ≤ 8000) : ∀ (fuel i : Nat) (f : Nat → Int32), i ≤ m * n → m * n - i < fuel → Mw (k + i) (nI (k + i)) f (perB B k m) → ∃ f', loop3 (b_Mo_again_39 (nI m) (nI n)) fuel (nI i) (nI (k + i)) f = some (1, nI (k + m * n), f') ∧ Mw (k + m * n) (nI (k + m * n)) f' (perB B k m) := by
  intro fuel
  induction fuel with
  | zero => intro i f a b; omega
  | succ fuel ih =>
    intro i f hi hf h
    rw [loop3_s]
    rw [b_Mo_again_39]
    rw [pk_mul]
    by_cases e : i = m * n
    · rw [if_pos (nI_le (by omega) (by omega))]
      rw [← e]
      exact ⟨f, rfl, h⟩
    · rw [if_neg (nI_ge (by omega) (by omega)), pk_sub (by omega), as_of (vp_in_nI (by omega) (by omega)), as_of (vp_in_nI (by omega) (by omega)), nI_clamp (by omega), nI_clamp (by omega), nI_1, show nI (k + i) + (1 : Int32) = nI (k + (i + 1)) from nI_1 _]
      refine ih (i + 1) _ (by omega) (by omega) ⟨rfl, by omega, fun j hj => ?_⟩
      unfold upd
      by_cases e2 : j = k + i
      · subst e2
        rw [if_pos rfl, per_step h1 h2 (by omega)]
        exact h.2.2 _ (by omega)
      · rw [if_neg e2]
        exact h.2.2 j (by omega)
theorem m_again {N k m n : Nat} {win : Int32} {wif : Nat → Int32} {B : Nat → Nat} (hN : 20000 < N) (h : Mw k win wif B) (h1 : 1 ≤ m) (h2 : m ≤ k) (hn : n < 2 ^ 31) (hk : k + m * n ≤ 8000) : ∃ f', f_Mo_again N (nI m) (nI n) win wif = some (1, nI (k + m * n), f') ∧ Mw (k + m * n) (nI (k + m * n)) f' (perB B k m) := by
  obtain ⟨rfl, hk8, h3⟩ := id h
  obtain ⟨f', e, h4⟩ := ma_loop h1 h2 hk N 0 wif (Nat.zero_le _) (by omega) (h.congr (fun j hj => by unfold perB; rw [if_pos (by omega)]))
  refine ⟨f', ?_, h4⟩
  unfold f_Mo_again j_Mo_again_0
  rw [if_neg (show ¬ nI m < 1 from nI_nlt h1 (by omega)), if_neg (nI_nlt h2 (by omega)), if_neg (nI_pos (by omega)), nI_l (by omega), nI_l (by omega), lN_mul, show (8000 : Int32) - nI k = nI (8000 - k) from pk_sub hk8, nI_l (by omega), if_pos (by rw [lg_cmp_le, pk_lLE (by omega) (by omega)]; omega)]
  exact e
theorem m_againNo {N k : Nat} {win : Int32} {wif : Nat → Int32} {B : Nat → Nat} (h : Mw k win wif B) {x y : Int32} (hy : againNo k x y) : f_Mo_again N x y win wif = some (0, win, wif) := by
  obtain ⟨rfl, hk8, h3⟩ := h
  unfold f_Mo_again j_Mo_again_0
  by_cases a : x < 1
  · rw [if_pos a]
  · rw [if_neg a]
    by_cases b : nI k < x
    · rw [if_pos b]
    · rw [if_neg b]
      by_cases d : y < 0
      · rw [if_pos d]
      · obtain ⟨m, n, hm, hn, rfl, rfl, hk⟩ := ((hy.resolve_left a).resolve_left b).resolve_left d
        have : m * n < 2 ^ 62 := Nat.lt_of_le_of_lt (Nat.mul_le_mul hm (Nat.le_of_lt hn)) (by decide)
        rw [if_neg d, nI_l (by omega), nI_l (by omega), lN_mul, show (8000 : Int32) - nI k = nI (8000 - k) from pk_sub hk8, nI_l (by omega), if_neg (by rw [lg_cmp_le, pk_lLE (by omega) (by omega)]; omega)]
