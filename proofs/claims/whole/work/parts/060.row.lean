/-! Rows of bytes: what the class's Row methods do, in numbers. -/
/-- the low eight bits -/
def lo8 (x : Int32) : Nat := x.toBitVec.toNat % 256
theorem lo8_lt (x : Int32) : lo8 x < 256 := Nat.mod_lt _ (by decide)
theorem sb_lo8 (x : Int32) : x.toInt8.toInt32 = sb_b (lo8 x) := by
  unfold sb_b
  congr 1
  apply Int8.toBitVec_inj.mp
  unfold nI lo8
  simp only [Int32.toBitVec_toInt8, Int32.toBitVec_ofNat']
  apply BitVec.eq_of_toNat_eq
  simp [BitVec.signExtend_eq_setWidth_of_le]
theorem lo8_nI {n : Nat} (h : n < 256) : lo8 (nI n) = n := by
  unfold lo8
  rw [pk_tn (by omega)]
  exact Nat.mod_eq_of_lt h
theorem sb_and {n : Nat} (h : n < 256) : sb_b n &&& 255 = nI n := (sb_byte n h).1
theorem sb_inj {a b : Nat} (ha : a < 256) (hb : b < 256) : sb_b a = sb_b b ↔ a = b := by
  constructor
  · intro h
    have h2 : sb_b a &&& 255 = sb_b b &&& 255 := by rw [h]
    rw [sb_and ha, sb_and hb] at h2
    exact (nI_eq (by omega) (by omega)).mp h2
  · intro h
    rw [h]
def Rw (L k : Nat) (n : Int32) (f : Nat → Int32) (B : Nat → Nat) : Prop := n = nI k ∧ k ≤ L ∧ L ≤ 16000 ∧ ∀ j, j < k → B j < 256 ∧ f j = sb_b (B j)
def updB (B : Nat → Nat) (k v : Nat) : Nat → Nat := fun j => if j = k then v else B j
/-- m bytes of C, from a on, behind the first k of B -/
def catB (B : Nat → Nat) (k : Nat) (C : Nat → Nat) (a : Nat) : Nat → Nat := fun j => if j < k then B j else C (a + (j - k))
theorem nIp {k : Nat} (h : k ≤ 16000) : ¬ nI k < 0 := nI_pos (by omega)
theorem s_add1 {L k : Nat} {n : Int32} {f : Nat → Int32} {B : Nat → Nat} (x : Int32) (h : Rw L k n f B) (hk : k < L) : f_Row_add L x n f = some (1, nI (k + 1), upd f k (sb_b (lo8 x))) ∧ Rw L (k + 1) (nI (k + 1)) (upd f k (sb_b (lo8 x))) (updB B k (lo8 x)) := by
  obtain ⟨rfl, h1, h2, h3⟩ := h
  constructor
  · unfold f_Row_add j_Row_add_0
    rw [if_neg (nIp (by omega)), if_pos (show nI k < Int32.ofNat L from nI_lt hk (by omega)), as_of (vp_in_nI hk (by omega)), pk_vb, sb_lo8, nI_clamp (by omega)]
    rw [show nI k + (1 : Int32) = nI (k + 1) from nI_1 k]
  · refine ⟨rfl, by omega, h2, fun j hj => ?_⟩
    unfold updB upd
    by_cases e : j = k
    · rw [if_pos e, if_pos e]; exact ⟨lo8_lt x, rfl⟩
    · rw [if_neg e, if_neg e]; exact h3 j (by omega)
theorem s_add0 {L : Nat} {n : Int32} {f : Nat → Int32} {B : Nat → Nat} (x : Int32) (h : Rw L L n f B) : f_Row_add L x n f = some (0, n, f) := by
  obtain ⟨rfl, h1, h2, h3⟩ := h
  unfold f_Row_add j_Row_add_0
  rw [if_neg (nIp (by omega)), if_neg (show ¬ nI L < Int32.ofNat L from nI_nlt (Nat.le_refl _) (by omega))]
theorem s_get {L k : Nat} {n : Int32} {f : Nat → Int32} {B : Nat → Nat} (h : Rw L k n f B) {j : Nat} (hj : j < k) : f_Row_get L (nI j) n f = some (nI (B j)) := by
  obtain ⟨rfl, h1, h2, h3⟩ := h
  unfold f_Row_get j_Row_get_0
  rw [if_neg (nIp (by omega)), if_neg (nI_ge hj (by omega)), if_neg (show ¬ Int32.ofNat L ≤ nI j from nI_ge (by omega) (by omega)), as_of (vp_in_nI (by omega) (by omega)), nI_clamp (by omega), (h3 j hj).2, sb_and (h3 j hj).1]
theorem s_getOut {L k : Nat} {n : Int32} {f : Nat → Int32} {B : Nat → Nat} (h : Rw L k n f B) {x : Int32} (hx : x < 0 ∨ nI k ≤ x) : f_Row_get L x n f = some (-1) := by
  obtain ⟨rfl, h1, h2, h3⟩ := h
  unfold f_Row_get j_Row_get_0
  by_cases h0 : x < 0
  · rw [if_pos h0]
  · rw [if_neg h0, if_pos (hx.resolve_left h0)]
theorem s_cutTo {L k : Nat} {n : Int32} {f : Nat → Int32} {B : Nat → Nat} (h : Rw L k n f B) {j : Nat} (hj : j ≤ k) : f_Row_cutTo (nI j) n = some (nI j) ∧ Rw L j (nI j) f B := by
  obtain ⟨rfl, h1, h2, h3⟩ := h
  constructor
  · unfold f_Row_cutTo j_Row_cutTo_0 mx mn
    by_cases e : j < k
    · rw [if_pos (nI_lt e (by omega))]
      by_cases e0 : j = 0
      · subst e0; rfl
      · rw [if_pos (show (0 : Int32) < nI j from nI_lt (a := 0) (by omega) (by omega))]
    · have e1 : j = k := by omega
      subst e1
      rw [if_neg (nI_nlt (Nat.le_refl _) (by omega))]
      by_cases e0 : j = 0
      · subst e0; rfl
      · rw [if_pos (show (0 : Int32) < nI j from nI_lt (a := 0) (by omega) (by omega))]
  · exact ⟨rfl, by omega, h2, fun i hi => h3 i (by omega)⟩
theorem s_cut0 {L k : Nat} {n : Int32} {f : Nat → Int32} {B : Nat → Nat} (h : Rw L k n f B) : f_Row_cutTo 0 n = some 0 ∧ Rw L 0 0 f B := s_cutTo h (j := 0) (Nat.zero_le _)
theorem s_addFrom {L k L2 k2 : Nat} {n n2 : Int32} {f f2 : Nat → Int32} {B B2 : Nat → Nat} (h : Rw L k n f B) (g : Rw L2 k2 n2 f2 B2) {a b : Nat} (hab : a ≤ b) (hb : b ≤ k2) (hr : k + (b - a) ≤ L) : ∃ f', f_Row_addFrom L L2 (nI a) (nI b) n f n2 f2 = some (1, nI (k + (b - a)), f') ∧ Rw L (k + (b - a)) (nI (k + (b - a))) f' (catB B k B2 a) := by
  obtain ⟨rfl, h1, h2, h3⟩ := h
  obtain ⟨rfl, g1, g2, g3⟩ := g
  refine ⟨va_cpy f2 f a k (b - a), ?_, rfl, hr, h2, fun j hj => ?_⟩
  · unfold f_Row_addFrom j_Row_addFrom_0
    rw [if_neg (nIp (by omega)), pk_sub hab, if_neg (nIp (by omega)), if_neg (nI_nlt hb (by omega)), show Int32.ofNat L = nI L from rfl, pk_sub h1, if_pos (nI_le (by omega) (by omega)), nI_clamp (by omega), nI_clamp (by omega), nI_clamp (by omega), as_of, nI_add]
    exact ⟨nIp (by omega), nIp (by omega), nIp (by omega), by omega, by omega, fun i hi => by rw [(g3 (a + i) (by omega)).2]; exact pk_fb _⟩
  · unfold catB
    by_cases e : j < k
    · rw [if_pos e, pk_cpy_out (Or.inl e)]; exact h3 j e
    · rw [if_neg e, pk_cpy_in (by omega) (by omega)]; exact g3 _ (by omega)
theorem s_addFromN {L k L2 k2 : Nat} {n n2 : Int32} {f f2 : Nat → Int32} {B B2 : Nat → Nat} (h : Rw L k n f B) (g : Rw L2 k2 n2 f2 B2) {a b : Nat} (hab : a ≤ b) (hb : b ≤ k2) (hr : L < k + (b - a)) : f_Row_addFrom L L2 (nI a) (nI b) n f n2 f2 = some (0, n, f) := by
  obtain ⟨rfl, h1, h2, h3⟩ := h
  obtain ⟨rfl, g1, g2, g3⟩ := g
  unfold f_Row_addFrom j_Row_addFrom_0
  rw [if_neg (nIp (by omega)), pk_sub hab, if_neg (nIp (by omega)), if_neg (nI_nlt hb (by omega)), show Int32.ofNat L = nI L from rfl, pk_sub h1, if_neg (nI_ge (by omega) (by omega))]
theorem s_addFrom_s {L k : Nat} {n : Int32} {f : Nat → Int32} {B : Nat → Nat} (h : Rw L k n f B) {a b : Nat} (hab : a ≤ b) (hb : b ≤ k) (hr : k + (b - a) ≤ L) : ∃ f', f_Row_addFrom_s L (nI a) (nI b) n f = some (1, nI (k + (b - a)), f') ∧ Rw L (k + (b - a)) (nI (k + (b - a))) f' (catB B k B a) := by
  obtain ⟨rfl, h1, h2, h3⟩ := h
  refine ⟨va_cpy f f a k (b - a), ?_, rfl, hr, h2, fun j hj => ?_⟩
  · unfold f_Row_addFrom_s j_Row_addFrom_s_0
    rw [if_neg (nIp (by omega)), pk_sub hab, if_neg (nIp (by omega)), if_neg (nI_nlt hb (by omega)), show Int32.ofNat L = nI L from rfl, pk_sub h1, if_pos (nI_le (by omega) (by omega)), nI_clamp (by omega), nI_clamp (by omega), nI_clamp (by omega), as_of, nI_add]
    exact ⟨nIp (by omega), nIp (by omega), nIp (by omega), by omega, by omega, fun i hi => by rw [(h3 (a + i) (by omega)).2]; exact pk_fb _⟩
  · unfold catB
    by_cases e : j < k
    · rw [if_pos e, pk_cpy_out (Or.inl e)]; exact h3 j e
    · rw [if_neg e, pk_cpy_in (by omega) (by omega)]; exact h3 _ (by omega)
theorem Rw.congr {L k : Nat} {n : Int32} {f : Nat → Int32} {B C : Nat → Nat} (h : Rw L k n f B) (e : ∀ j, j < k → B j = C j) : Rw L k n f C := ⟨h.1, h.2.1, h.2.2.1, fun j hj => by rw [← e j hj]; exact h.2.2.2 j hj⟩
theorem s_become {L k L2 k2 : Nat} {n n2 : Int32} {f f2 : Nat → Int32} {B B2 : Nat → Nat} (h : Rw L k n f B) (g : Rw L2 k2 n2 f2 B2) (hr : k2 ≤ L) : ∃ f', f_Row_become L L2 n f n2 f2 = some (nI k2, f') ∧ Rw L k2 (nI k2) f' B2 := by
  obtain ⟨e1, h1⟩ := s_cut0 h
  obtain ⟨f', e2, h2⟩ := s_addFrom h1 g (a := 0) (b := k2) (Nat.zero_le _) (Nat.le_refl _) (by omega)
  refine ⟨f', ?_, ?_⟩
  · unfold f_Row_become j_Row_become_0
    rw [bd1_of e1]
    rw [show n2 = nI k2 from g.1, nI_0] at e2
    rw [show n2 = nI k2 from g.1, bd3_of e2]
    simp
  · have h3 : Rw L k2 (nI k2) f' (catB B 0 B2 0) := by simpa using h2
    exact h3.congr (fun j hj => by simp [catB])
